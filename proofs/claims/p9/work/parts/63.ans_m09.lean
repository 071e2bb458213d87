def u_s_X12_findsRead3 : List Cond := .code yX12_findsRead cX12_findsRead 2 (some .boolean) :: ([.methodLink RX12 246 yX12_findRead, .instanceMethod yX12_findRead, .selects RX12 yX12_findRead yX12_findRead, .initialized RX12, .fieldLink RX12 221 "ShellHeapModel" "kindNow" "I", .methodLink RX12 243 yX12_isSign, .instanceMethod yX12_isSign, .selects RX12 yX12_isSign yX12_isSign, .methodLink RX12 236 yX12_take, .instanceMethod yX12_take, .selects RX12 yX12_take yX12_take, .methodLink RX12 240 yX12_wrong, .instanceMethod yX12_wrong, .selects RX12 yX12_wrong yX12_wrong, .fieldLink RX12 29 "ShellHeapModel" "found" "[I", .fieldLink RX12 154 "ShellHeapModel" "notes" "I"] ++ (wsX120 ++ (u_s_X12_findRead3 ++ (u_s_X12_isSign3 ++ (u_s_X12_take3 ++ (u_s_X12_wrong ++ []))))))
theorem gd_s_X12_findsRead3 : z_gd u_s_X12_findsRead3 := z_gdc (by decide +kernel) (z_gda gdX12 (z_gda gd_s_X12_findRead3 (z_gda gd_s_X12_isSign3 (z_gda gd_s_X12_take3 (z_gda gd_s_X12_wrong (z_gd0))))))
set_option maxRecDepth 20000 in
theorem gw_s_X12_findsRead3_s_X12_findRead3_246 : GoodIn u_s_X12_findsRead3 (wsV RX12 246 RX12 yX12_findRead u_s_X12_findRead3) := z_gV (z_gr _ [1, 2, 3, 4] rfl (by decide +kernel)) (fun w h => ⟨z_mc (z_mr (z_mr (z_ml h))), gd_s_X12_findRead3 w h⟩)
set_option maxRecDepth 20000 in
theorem gw_s_X12_findsRead3_s_X12_isSign3_243 : GoodIn u_s_X12_findsRead3 (wsV RX12 243 RX12 yX12_isSign u_s_X12_isSign3) := z_gV (z_gr _ [6, 7, 8, 4] rfl (by decide +kernel)) (fun w h => ⟨z_mc (z_mr (z_mr (z_mr (z_ml h)))), gd_s_X12_isSign3 w h⟩)
set_option maxRecDepth 20000 in
theorem gw_s_X12_findsRead3_s_X12_take3_236 : GoodIn u_s_X12_findsRead3 (wsV RX12 236 RX12 yX12_take u_s_X12_take3) := z_gV (z_gr _ [9, 10, 11, 4] rfl (by decide +kernel)) (fun w h => ⟨z_mc (z_mr (z_mr (z_mr (z_mr (z_ml h))))), gd_s_X12_take3 w h⟩)
set_option maxRecDepth 20000 in
theorem gw_s_X12_findsRead3_s_X12_wrong_240 : GoodIn u_s_X12_findsRead3 (wsV RX12 240 RX12 yX12_wrong u_s_X12_wrong) := z_gV (z_gr _ [12, 13, 14, 4] rfl (by decide +kernel)) (fun w h => ⟨z_mc (z_mr (z_mr (z_mr (z_mr (z_mr (z_ml h)))))), gd_s_X12_wrong w h⟩)
set_option maxHeartbeats 4000000 in
set_option maxRecDepth 100000 in
theorem s_X12_findsRead3 (l : Launch) (dC : Nat → ClassId) (dI : Nat → Nat → Nat) (sz : Nat) (h0 : Nat) (a_te : Nat) (h0_1 : Value) (h0_2 : Value) (h0_3 : Value) (mn : Int32) (h0_5 : Value) (h0_6 : Value) (h0_7 : Value) (h0_8 : Value) (h0_9 : Value) (a_fd : Nat) (h0_11 : Value) (h0_12 : Value) (h0_13 : Value) (h0_14 : Value) (h0_15 : Value) (h0_16 : Value) (h0_17 : Value) (h0_18 : Value) (h0_19 : Value) (h0_20 : Value) (h0_21 : Value) (h0_22 : Value) (mk : Int32) (h0_24 : Value) (h0_25 : Value) (h0_26 : Value) (a_wd : Nat) (mf : Int32) (mfp : Int32) (mst : Int32) (mnx : Int32) (mkd : Int32) (mwh : Int32) (mpl : Int32) (h0_35 : Value) (h0_36 : Value) (h0_37 : Value) (h0_38 : Value) (h0_39 : Value) (h0_40 : Value) (h0_41 : Value) (h0_42 : Value) (h0_43 : Value) (h0_44 : Value) (h0_45 : Value) (h0_46 : Value) (h0_47 : Value) (h0_48 : Value) (h0_49 : Value) (h0_50 : Value) (h0_51 : Value) (h0_52 : Value) (h0_53 : Value) (h0_54 : Value) (h0_55 : Value) (h0_56 : Value) (h0_57 : Value) (h0_58 : Value) (h0_59 : Value) (h0_60 : Value) (h0_61 : Value) (h0_62 : Value) (h0_63 : Value) (h0_64 : Value) (h0_65 : Value) (h0_66 : Value) (h0_67 : Value) (h0_68 : Value) (h0_69 : Value) (ca_te : ClassId) (fa_te : Nat → Int32) (ca_wd : ClassId) (fa_wd : Nat → Int32) (ca_fd : ClassId) (fa_fd : Nat → Int32) (pa : Int) (hB_mst : ((0 : Int) ≤ (mst).toInt ∧ (mst).toInt ≤ (700 : Int))) (hB_mnx : ((0 : Int) ≤ (mnx).toInt ∧ (mnx).toInt ≤ (700 : Int))) (hB_mkd : ((0 : Int) ≤ (mkd).toInt ∧ (mkd).toInt ≤ (7 : Int))) (hB_mpl : ((0 : Int) ≤ (mpl).toInt ∧ (mpl).toInt ≤ (700 : Int))) (hB_mn : ((0 : Int) ≤ (mn).toInt ∧ (mn).toInt ≤ (79 : Int))) (hB_mk : ((0 : Int) ≤ (mk).toInt ∧ (mk).toInt ≤ (6 : Int))) (hI_a_te : ∀ j : Nat, ((0 : Int) ≤ (fa_te j).toInt ∧ (fa_te j).toInt ≤ (255 : Int))) (hWD : z_wd fa_wd) (hWX : ∀ j : Nat, j < 115 → fa_wd j = z_words j) (hle : mnx.toInt ≤ mst.toInt) (hM : f_M fa_te mst.toInt pa mkd.toInt mwh.toInt mnx.toInt) : Met l yX12_findsRead u_s_X12_findsRead3 ({ frames := 4, cells := 0, slots := 0, locals := 89 }) (va_Pc [.ref h0] (z_C (dC, dI) vwCl [(h0, .inr (12, [.ref a_te, h0_1, h0_2, h0_3, .int mn, h0_5, h0_6, h0_7, h0_8, h0_9, .ref a_fd, h0_11, h0_12, h0_13, h0_14, h0_15, h0_16, h0_17, h0_18, h0_19, h0_20, h0_21, h0_22, .int mk, h0_24, h0_25, h0_26, .ref a_wd, .int mf, .int mfp, .int mst, .int mnx, .int mkd, .int mwh, .int mpl, h0_35, h0_36, h0_37, h0_38, h0_39, h0_40, h0_41, h0_42, h0_43, h0_44, h0_45, h0_46, h0_47, h0_48, h0_49, h0_50, h0_51, h0_52, h0_53, h0_54, h0_55, h0_56, h0_57, h0_58, h0_59, h0_60, h0_61, h0_62, h0_63, h0_64, h0_65, h0_66, h0_67, h0_68, h0_69])), (a_te, .inl (ca_te, 700, .inl fa_te)), (a_wd, .inl (ca_wd, 115, .inl fa_wd)), (a_fd, .inl (ca_fd, 11520, .inl fa_fd))] [(ca_te, .int), (ca_wd, .int), (ca_fd, .int)] sz)) (va_Qi (fun (r : Int32) (_ : Unit) => (r = 1 ∧ f_E fa_te mst.toInt mk.toInt 0 0 pa) ∨ (r = 0 ∧ ¬ f_E fa_te mst.toInt mk.toInt 0 0 pa)) (fun (_ : Unit) (t : State) => ∃ (n_h0_next : Int32), ∃ (n_h0_kindNow : Int32), ∃ (n_h0_which : Int32), ∃ (n_h0_place : Int32), ∃ (n_h0_fault : Int32), ∃ (n_h0_faultPlace : Int32), ∃ (g_a_fd : Nat → Int32), ((0 : Int) ≤ (n_h0_next).toInt ∧ (n_h0_next).toInt ≤ (700 : Int)) ∧ ((0 : Int) ≤ (n_h0_kindNow).toInt ∧ (n_h0_kindNow).toInt ≤ (7 : Int)) ∧ ((0 : Int) ≤ (n_h0_place).toInt ∧ (n_h0_place).toInt ≤ (700 : Int)) ∧ va_P (dC, dI) vwCl [(h0, .inr (12, [.ref a_te, h0_1, h0_2, h0_3, .int mn, h0_5, h0_6, h0_7, h0_8, h0_9, .ref a_fd, h0_11, h0_12, h0_13, h0_14, h0_15, h0_16, h0_17, h0_18, h0_19, h0_20, h0_21, h0_22, .int mk, h0_24, h0_25, h0_26, .ref a_wd, .int n_h0_fault, .int n_h0_faultPlace, .int mst, .int n_h0_next, .int n_h0_kindNow, .int n_h0_which, .int n_h0_place, h0_35, h0_36, h0_37, h0_38, h0_39, h0_40, h0_41, h0_42, h0_43, h0_44, h0_45, h0_46, h0_47, h0_48, h0_49, h0_50, h0_51, h0_52, h0_53, h0_54, h0_55, h0_56, h0_57, h0_58, h0_59, h0_60, h0_61, h0_62, h0_63, h0_64, h0_65, h0_66, h0_67, h0_68, h0_69])), (a_te, .inl (ca_te, 700, .inl fa_te)), (a_wd, .inl (ca_wd, 115, .inl fa_wd)), (a_fd, .inl (ca_fd, 11520, .inl g_a_fd))] t.heap ∧ va_K (dC, dI) vwCl [] t ∧ va_D (va_A [(h0, .inr (12, [.ref a_te, h0_1, h0_2, h0_3, .int mn, h0_5, h0_6, h0_7, h0_8, h0_9, .ref a_fd, h0_11, h0_12, h0_13, h0_14, h0_15, h0_16, h0_17, h0_18, h0_19, h0_20, h0_21, h0_22, .int mk, h0_24, h0_25, h0_26, .ref a_wd, .int mf, .int mfp, .int mst, .int mnx, .int mkd, .int mwh, .int mpl, h0_35, h0_36, h0_37, h0_38, h0_39, h0_40, h0_41, h0_42, h0_43, h0_44, h0_45, h0_46, h0_47, h0_48, h0_49, h0_50, h0_51, h0_52, h0_53, h0_54, h0_55, h0_56, h0_57, h0_58, h0_59, h0_60, h0_61, h0_62, h0_63, h0_64, h0_65, h0_66, h0_67, h0_68, h0_69])), (a_te, .inl (ca_te, 700, .inl fa_te)), (a_wd, .inl (ca_wd, 115, .inl fa_wd)), (a_fd, .inl (ca_fd, 11520, .inl fa_fd))] sz) [(h0, .inr (12, [.ref a_te, h0_1, h0_2, h0_3, .int mn, h0_5, h0_6, h0_7, h0_8, h0_9, .ref a_fd, h0_11, h0_12, h0_13, h0_14, h0_15, h0_16, h0_17, h0_18, h0_19, h0_20, h0_21, h0_22, .int mk, h0_24, h0_25, h0_26, .ref a_wd, .int n_h0_fault, .int n_h0_faultPlace, .int mst, .int n_h0_next, .int n_h0_kindNow, .int n_h0_which, .int n_h0_place, h0_35, h0_36, h0_37, h0_38, h0_39, h0_40, h0_41, h0_42, h0_43, h0_44, h0_45, h0_46, h0_47, h0_48, h0_49, h0_50, h0_51, h0_52, h0_53, h0_54, h0_55, h0_56, h0_57, h0_58, h0_59, h0_60, h0_61, h0_62, h0_63, h0_64, h0_65, h0_66, h0_67, h0_68, h0_69])), (a_te, .inl (ca_te, 700, .inl fa_te)), (a_wd, .inl (ca_wd, 115, .inl fa_wd)), (a_fd, .inl (ca_fd, 11520, .inl g_a_fd))]) (va_A [(h0, .inr (12, [.ref a_te, h0_1, h0_2, h0_3, .int mn, h0_5, h0_6, h0_7, h0_8, h0_9, .ref a_fd, h0_11, h0_12, h0_13, h0_14, h0_15, h0_16, h0_17, h0_18, h0_19, h0_20, h0_21, h0_22, .int mk, h0_24, h0_25, h0_26, .ref a_wd, .int mf, .int mfp, .int mst, .int mnx, .int mkd, .int mwh, .int mpl, h0_35, h0_36, h0_37, h0_38, h0_39, h0_40, h0_41, h0_42, h0_43, h0_44, h0_45, h0_46, h0_47, h0_48, h0_49, h0_50, h0_51, h0_52, h0_53, h0_54, h0_55, h0_56, h0_57, h0_58, h0_59, h0_60, h0_61, h0_62, h0_63, h0_64, h0_65, h0_66, h0_67, h0_68, h0_69])), (a_te, .inl (ca_te, 700, .inl fa_te)), (a_wd, .inl (ca_wd, 115, .inl fa_wd)), (a_fd, .inl (ca_fd, 11520, .inl fa_fd))] sz)) 0 0 (va_A [(h0, .inr (12, [.ref a_te, h0_1, h0_2, h0_3, .int mn, h0_5, h0_6, h0_7, h0_8, h0_9, .ref a_fd, h0_11, h0_12, h0_13, h0_14, h0_15, h0_16, h0_17, h0_18, h0_19, h0_20, h0_21, h0_22, .int mk, h0_24, h0_25, h0_26, .ref a_wd, .int mf, .int mfp, .int mst, .int mnx, .int mkd, .int mwh, .int mpl, h0_35, h0_36, h0_37, h0_38, h0_39, h0_40, h0_41, h0_42, h0_43, h0_44, h0_45, h0_46, h0_47, h0_48, h0_49, h0_50, h0_51, h0_52, h0_53, h0_54, h0_55, h0_56, h0_57, h0_58, h0_59, h0_60, h0_61, h0_62, h0_63, h0_64, h0_65, h0_66, h0_67, h0_68, h0_69])), (a_te, .inl (ca_te, 700, .inl fa_te)), (a_wd, .inl (ca_wd, 115, .inl fa_wd)), (a_fd, .inl (ca_fd, 11520, .inl fa_fd))] sz) := by
  refine Met.ofW (cc := cX12_findsRead) (maxL := 2) (ret := (some .boolean)) (by decide) rfl ?_
  intro p e s m args below meth c s₁ B hml hv
  obtain ⟨rfl, hsz, hP, hK, hD0⟩ := hv
  have hx := B.exec
  have hb := B.bytes
  have hr := B.returns
  have hts := atoms_spec (ws := u_s_X12_findsRead3) B.pre
  have hown : s.vm.findClass RX12 = some m.cls := findClass_of_methodNamed B.named
  have hlocks := B.notSynchronized
  subst hsz
  have hD := hD0.self (sz := s.heap.size)
  generalize hAe : va_A [(h0, .inr (12, [.ref a_te, h0_1, h0_2, h0_3, .int mn, h0_5, h0_6, h0_7, h0_8, h0_9, .ref a_fd, h0_11, h0_12, h0_13, h0_14, h0_15, h0_16, h0_17, h0_18, h0_19, h0_20, h0_21, h0_22, .int mk, h0_24, h0_25, h0_26, .ref a_wd, .int mf, .int mfp, .int mst, .int mnx, .int mkd, .int mwh, .int mpl, h0_35, h0_36, h0_37, h0_38, h0_39, h0_40, h0_41, h0_42, h0_43, h0_44, h0_45, h0_46, h0_47, h0_48, h0_49, h0_50, h0_51, h0_52, h0_53, h0_54, h0_55, h0_56, h0_57, h0_58, h0_59, h0_60, h0_61, h0_62, h0_63, h0_64, h0_65, h0_66, h0_67, h0_68, h0_69])), (a_te, .inl (ca_te, 700, .inl fa_te)), (a_wd, .inl (ca_wd, 115, .inl fa_wd)), (a_fd, .inl (ca_fd, 11520, .inl fa_fd))] s.heap.size = A at hD ⊢
  have hA : ∀ q : Nat, s.heap.size ≤ q → A q := fun q h => by rw [← hAe]; exact Or.inr h
  have hS : va_S A s.heap s.heap [] := va_S.rf
  have hP : va_P (dC, dI) vwCl [(h0, .inr (12, [.ref a_te, h0_1, h0_2, h0_3, .int mn, h0_5, h0_6, h0_7, h0_8, h0_9, .ref a_fd, h0_11, h0_12, h0_13, h0_14, h0_15, h0_16, h0_17, h0_18, h0_19, h0_20, h0_21, h0_22, .int mk, h0_24, h0_25, h0_26, .ref a_wd, .int mf, .int mfp, .int mst, .int mnx, .int mkd, .int mwh, .int mpl, h0_35, h0_36, h0_37, h0_38, h0_39, h0_40, h0_41, h0_42, h0_43, h0_44, h0_45, h0_46, h0_47, h0_48, h0_49, h0_50, h0_51, h0_52, h0_53, h0_54, h0_55, h0_56, h0_57, h0_58, h0_59, h0_60, h0_61, h0_62, h0_63, h0_64, h0_65, h0_66, h0_67, h0_68, h0_69])), (a_te, .inl (ca_te, 700, .inl fa_te)), (a_wd, .inl (ca_wd, 115, .inl fa_wd)), (a_fd, .inl (ca_fd, 11520, .inl fa_fd))] s.heap := hP
  have w__fieldLink_RX12_221_ShellHeapModel_kindNow_I_ := hts (.fieldLink RX12 221 "ShellHeapModel" "kindNow" "I") (z_mc (z_ml z_m4))
  have hiX12 := show ∀ w ∈ u_ws RX12 TX12 70, w ∈ u_s_X12_findsRead3 from fun w h => z_mc (z_mr (z_ml h))
  have w__fieldLink_RX12_29_ShellHeapModel_found_I_ := hts (.fieldLink RX12 29 "ShellHeapModel" "found" "[I") (z_mc (z_ml z_m14))
  have w__fieldLink_RX12_154_ShellHeapModel_notes_I_ := hts (.fieldLink RX12 154 "ShellHeapModel" "notes" "I") (z_mc (z_ml z_m15))
  have hl := lv_entry ([.ref h0]) (n := 2) (Nat.le_of_ble_eq_true rfl)
  rw [lg_entry_eq]
  generalize (lg_sl ([.ref h0]) ++ List.replicate (2 - (lg_sl ([.ref h0])).length) Slot.unset).toArray = ls at hl ⊢
  have hl : lv_has ls 2 [(0, .ref h0)] := hl
  refine z_nameQ (fun QQ hQQ => ?_)
  refine lv_iconst (v := 0) hx hb dX12_findsRead_0 (by decide) ?_
  refine lv_istore_n (lv' := [(1, .int 0), (0, .ref h0)]) hx hb dX12_findsRead_1 rfl hl (by decide) rfl (fun ls hl => ?_)
  have loop_1 : ∀ (n_2 : Nat) (i_4 : Int32) (f_5 : Nat → Int32) (H : Heap) (locs : List Loc) (ls : Array Slot), (145 - (i_4).toInt).toNat < n_2 → (((0 : Int) ≤ (i_4).toInt ∧ (i_4).toInt ≤ (144 : Int))) → va_P (dC, dI) vwCl [(h0, .inr (12, [.ref a_te, h0_1, h0_2, h0_3, .int mn, h0_5, h0_6, h0_7, h0_8, h0_9, .ref a_fd, h0_11, h0_12, h0_13, h0_14, h0_15, h0_16, h0_17, h0_18, h0_19, h0_20, h0_21, h0_22, .int mk, h0_24, h0_25, h0_26, .ref a_wd, .int mf, .int mfp, .int mst, .int mnx, .int mkd, .int mwh, .int mpl, h0_35, h0_36, h0_37, h0_38, h0_39, h0_40, h0_41, h0_42, h0_43, h0_44, h0_45, h0_46, h0_47, h0_48, h0_49, h0_50, h0_51, h0_52, h0_53, h0_54, h0_55, h0_56, h0_57, h0_58, h0_59, h0_60, h0_61, h0_62, h0_63, h0_64, h0_65, h0_66, h0_67, h0_68, h0_69])), (a_te, .inl (ca_te, 700, .inl fa_te)), (a_wd, .inl (ca_wd, 115, .inl fa_wd)), (a_fd, .inl (ca_fd, 11520, .inl f_5))] H → va_D A [(h0, .inr (12, [.ref a_te, h0_1, h0_2, h0_3, .int mn, h0_5, h0_6, h0_7, h0_8, h0_9, .ref a_fd, h0_11, h0_12, h0_13, h0_14, h0_15, h0_16, h0_17, h0_18, h0_19, h0_20, h0_21, h0_22, .int mk, h0_24, h0_25, h0_26, .ref a_wd, .int mf, .int mfp, .int mst, .int mnx, .int mkd, .int mwh, .int mpl, h0_35, h0_36, h0_37, h0_38, h0_39, h0_40, h0_41, h0_42, h0_43, h0_44, h0_45, h0_46, h0_47, h0_48, h0_49, h0_50, h0_51, h0_52, h0_53, h0_54, h0_55, h0_56, h0_57, h0_58, h0_59, h0_60, h0_61, h0_62, h0_63, h0_64, h0_65, h0_66, h0_67, h0_68, h0_69])), (a_te, .inl (ca_te, 700, .inl fa_te)), (a_wd, .inl (ca_wd, 115, .inl fa_wd)), (a_fd, .inl (ca_fd, 11520, .inl f_5))] → va_S A s.heap H locs → lv_has ls 2 [(1, .int i_4), (0, .ref h0)] → W p l e ({ frames := 4, cells := 0, slots := 0, locals := 89 } : Room) s m ([.ref h0] : List Value).toArray below meth c H locs 0 0 QQ (F0 m 2 ls []) := by
    intro n_2
    induction n_2 with
    | zero => intro i_4 f_5 H locs ls hm; exact absurd hm (Nat.not_lt_zero _)
    | succ n_2 ih_3 =>
      intro i_4 f_5 H locs ls hm hF_6 hP hD hS hl
      refine lv_iload_n hx hb dX12_findsRead_2 rfl (lv_at hl 0 rfl) ?_
      refine lv_sipush (v := 144) hx hb dX12_findsRead_3 (by decide) ?_
      refine lv_icmp_ge (tgt := 31) hx hb dX12_findsRead_6 (by decide) (fun c_7 => ?_) (fun c_7 => ?_)
      · have k_8 : (144 : Int) ≤ (i_4).toInt := z_le c_7
        obtain rfl : i_4 = 144 := z_eq' (show (i_4).toInt = (144 : Int) by omega)
        have loop_10 : ∀ (n_11 : Nat) (v_13 : Int32) (v_14 : Int32) (v_15 : Int32) (v_16 : Int32) (v_17 : Int32) (v_18 : Int32) (f_19 : Nat → Int32) (H : Heap) (locs : List Loc) (ls : Array Slot), (701 - (v_13).toInt).toNat < n_11 → (((0 : Int) ≤ (v_13).toInt ∧ (v_13).toInt ≤ (700 : Int))) → (((0 : Int) ≤ (v_14).toInt ∧ (v_14).toInt ≤ (7 : Int))) → (((0 : Int) ≤ (v_16).toInt ∧ (v_16).toInt ≤ (700 : Int))) → (f_L2 fa_te (mst).toInt (mk).toInt pa (v_14).toInt (v_15).toInt (v_13).toInt) → ((v_13).toInt ≤ (mst).toInt) → va_P (dC, dI) vwCl [(h0, .inr (12, [.ref a_te, h0_1, h0_2, h0_3, .int mn, h0_5, h0_6, h0_7, h0_8, h0_9, .ref a_fd, h0_11, h0_12, h0_13, h0_14, h0_15, h0_16, h0_17, h0_18, h0_19, h0_20, h0_21, h0_22, .int mk, h0_24, h0_25, h0_26, .ref a_wd, .int v_17, .int v_18, .int mst, .int v_13, .int v_14, .int v_15, .int v_16, h0_35, h0_36, h0_37, h0_38, h0_39, h0_40, h0_41, h0_42, h0_43, h0_44, h0_45, h0_46, h0_47, h0_48, h0_49, h0_50, h0_51, h0_52, h0_53, h0_54, h0_55, h0_56, h0_57, h0_58, h0_59, h0_60, h0_61, h0_62, h0_63, h0_64, h0_65, h0_66, h0_67, h0_68, h0_69])), (a_te, .inl (ca_te, 700, .inl fa_te)), (a_wd, .inl (ca_wd, 115, .inl fa_wd)), (a_fd, .inl (ca_fd, 11520, .inl f_19))] H → va_D A [(h0, .inr (12, [.ref a_te, h0_1, h0_2, h0_3, .int mn, h0_5, h0_6, h0_7, h0_8, h0_9, .ref a_fd, h0_11, h0_12, h0_13, h0_14, h0_15, h0_16, h0_17, h0_18, h0_19, h0_20, h0_21, h0_22, .int mk, h0_24, h0_25, h0_26, .ref a_wd, .int v_17, .int v_18, .int mst, .int v_13, .int v_14, .int v_15, .int v_16, h0_35, h0_36, h0_37, h0_38, h0_39, h0_40, h0_41, h0_42, h0_43, h0_44, h0_45, h0_46, h0_47, h0_48, h0_49, h0_50, h0_51, h0_52, h0_53, h0_54, h0_55, h0_56, h0_57, h0_58, h0_59, h0_60, h0_61, h0_62, h0_63, h0_64, h0_65, h0_66, h0_67, h0_68, h0_69])), (a_te, .inl (ca_te, 700, .inl fa_te)), (a_wd, .inl (ca_wd, 115, .inl fa_wd)), (a_fd, .inl (ca_fd, 11520, .inl f_19))] → va_S A s.heap H locs → lv_has ls 2 [(1, .int 144), (0, .ref h0)] → W p l e ({ frames := 4, cells := 0, slots := 0, locals := 89 } : Room) s m ([.ref h0] : List Value).toArray below meth c H locs 0 0 QQ (F0 m 31 ls []) := by
          intro n_11
          induction n_11 with
          | zero => intro v_13 v_14 v_15 v_16 v_17 v_18 f_19 H locs ls hm; exact absurd hm (Nat.not_lt_zero _)
          | succ n_11 ih_12 =>
            intro v_13 v_14 v_15 v_16 v_17 v_18 f_19 H locs ls hm hF_20 hF_21 hF_22 hF_23 hF_24 hP hD hS hl
            obtain ⟨a_25, hMe_26, hEe_27⟩ := hF_23
            refine lv_aload_n hx hb dX12_findsRead_31 rfl (lv_at hl 1 rfl) ?_
            have hPc := hP
            have hDc := hD
            have hKc := hK
            have hFc := z_freeI hD hS hA
            refine va_calli (va_runV (As := []) (rest := []) ⟨hx, hb, hml, hown, hts⟩ (s_X12_findRead3 l dC dI H.size h0 a_te h0_1 h0_2 h0_3 mn h0_5 h0_6 h0_7 h0_8 h0_9 a_fd h0_11 h0_12 h0_13 h0_14 h0_15 h0_16 h0_17 h0_18 h0_19 h0_20 h0_21 h0_22 mk h0_24 h0_25 h0_26 a_wd v_17 v_18 mst v_13 v_14 v_15 v_16 h0_35 h0_36 h0_37 h0_38 h0_39 h0_40 h0_41 h0_42 h0_43 h0_44 h0_45 h0_46 h0_47 h0_48 h0_49 h0_50 h0_51 h0_52 h0_53 h0_54 h0_55 h0_56 h0_57 h0_58 h0_59 h0_60 h0_61 h0_62 h0_63 h0_64 h0_65 h0_66 h0_67 h0_68 h0_69 ca_te fa_te ca_wd fa_wd ca_fd f_19 a_25 hB_mst hF_20 hF_21 hF_22 hB_mn hB_mk hI_a_te hWD hWX (by first | omega | decide) hMe_26) (cwV 0 hts gw_s_X12_findsRead3_s_X12_findRead3_246 rfl rfl rfl (by decide +kernel) ⟨Nat.le_of_ble_eq_true rfl, Nat.le_of_ble_eq_true rfl⟩) ⟨z_blind, va_recv hKc hPc (ci := 12) (q0 := 0) rfl rfl, z_pre hPc hKc hDc⟩ rfl rfl hl.1 rfl (lv_room (Nat.le_of_ble_eq_true rfl)) dX12_findsRead_32 ⟨Nat.le_of_ble_eq_true rfl, Nat.le_of_ble_eq_true rfl⟩) hS (fun q _ h => hFc q h) hFc (fun r_29 u t H_28 locs ht hvm hw_30 hB hz1 hk1 hS => ?_)
            obtain ⟨rfl, hw_30⟩ := hw_30
            obtain ⟨n_h0_next_31, n_h0_kindNow_32, n_h0_which_33, n_h0_place_34, n_h0_fault_35, n_h0_faultPlace_36, g_a_fd_37, n_pa_38, n_t_39, hp_40, hp_41, hp_42, hp_43, hp_44, hp_45, hp_46, hp_47, hp_48, hP1, hK1, hD1⟩ := hB
            rw [ht] at hP1
            have hK1 := va_K.moved hvm.symm hK1
            obtain ⟨hP, hD⟩ := z_ap_0 (va_join (wr := []) hP hD [0, 1, 2, 3] [] rfl rfl (by decide) (by decide) hk1 hFc hP1 hD1)
            have hp_43 : v_13.toInt ≤ n_h0_next_31.toInt ∧ n_h0_next_31.toInt ≤ mst.toInt := hp_43
            clear hPc hDc hKc
            rcases hw_30 with ⟨rfl, hw_30⟩ | ⟨rfl, hw_30⟩
            · have hw_30 : True := hw_30
              have hp_44 : (v_13.toInt + 1 ≤ n_h0_next_31.toInt) := hp_44 rfl
              have hp_45 : f_M fa_te mst.toInt n_pa_38 n_h0_kindNow_32.toInt n_h0_which_33.toInt n_h0_next_31.toInt := hp_45 rfl
              have hp_46 : (f_E fa_te mst.toInt mk.toInt 0 0 a_25 ↔ f_E fa_te mst.toInt mk.toInt 5 n_t_39 n_pa_38) := hp_46 rfl
              have hp_47 : ¬ (n_h0_kindNow_32.toInt = 4 ∧ n_h0_which_33.toInt = 44) := hp_47 rfl
              refine lv_if_ne (tgt := 40) hx hb dX12_findsRead_35 (by decide) (fun _ => ?_) (fun c_49 => absurd c_49 (by decide))
              have hE_50 := hEe_27.trans (hp_46)
              refine lv_aload_n hx hb dX12_findsRead_40 rfl (lv_at hl 1 rfl) ?_
              refine va_get (D := (dC, dI)) (ci := 12) (v := .int n_h0_kindNow_32) (C := RX12) (T := TX12) (N := 70) hx hb hts hiX12 hown hK hP 0 rfl rfl 32 (by decide) w__fieldLink_RX12_221_ShellHeapModel_kindNow_I_ (fun _ h9 => h9) rfl dX12_findsRead_41 ?_
              refine lv_if_ne (tgt := 49) hx hb dX12_findsRead_44 (by decide) (fun c_51 => ?_) (fun c_51 => ?_)
              · have k_52 : (n_h0_kindNow_32).toInt ≠ (0 : Int) := z_ne c_51
                refine lv_aload_n hx hb dX12_findsRead_49 rfl (lv_at hl 1 rfl) ?_
                refine lv_bipush (v := 59) hx hb dX12_findsRead_50 (by decide) ?_
                obtain ⟨hPc, hDc⟩ := z_sub2 (ws' := [(h0, .inr (12, [.ref a_te, h0_1, h0_2, h0_3, .int mn, h0_5, h0_6, h0_7, h0_8, h0_9, .ref a_fd, h0_11, h0_12, h0_13, h0_14, h0_15, h0_16, h0_17, h0_18, h0_19, h0_20, h0_21, h0_22, .int mk, h0_24, h0_25, h0_26, .ref a_wd, .int n_h0_fault_35, .int n_h0_faultPlace_36, .int mst, .int n_h0_next_31, .int n_h0_kindNow_32, .int n_h0_which_33, .int n_h0_place_34, h0_35, h0_36, h0_37, h0_38, h0_39, h0_40, h0_41, h0_42, h0_43, h0_44, h0_45, h0_46, h0_47, h0_48, h0_49, h0_50, h0_51, h0_52, h0_53, h0_54, h0_55, h0_56, h0_57, h0_58, h0_59, h0_60, h0_61, h0_62, h0_63, h0_64, h0_65, h0_66, h0_67, h0_68, h0_69]))]) hP hD [0] (by decide) rfl
                have hKc := hK.sub (tys' := []) [] rfl
                have hFc := va_free (ws := []) (wc := []) (z_D0 _) hS hA [] rfl
                refine va_calli (va_runV (As := [.int 59]) (rest := []) ⟨hx, hb, hml, hown, hts⟩ (s_X12_isSign3 l dC dI H_28.size h0 59 (.ref a_te) h0_1 h0_2 h0_3 (.int mn) h0_5 h0_6 h0_7 h0_8 h0_9 (.ref a_fd) h0_11 h0_12 h0_13 h0_14 h0_15 h0_16 h0_17 h0_18 h0_19 h0_20 h0_21 h0_22 (.int mk) h0_24 h0_25 h0_26 (.ref a_wd) n_h0_fault_35 n_h0_faultPlace_36 mst n_h0_next_31 n_h0_kindNow_32 n_h0_which_33 n_h0_place_34 h0_35 h0_36 h0_37 h0_38 h0_39 h0_40 h0_41 h0_42 h0_43 h0_44 h0_45 h0_46 h0_47 h0_48 h0_49 h0_50 h0_51 h0_52 h0_53 h0_54 h0_55 h0_56 h0_57 h0_58 h0_59 h0_60 h0_61 h0_62 h0_63 h0_64 h0_65 h0_66 h0_67 h0_68 h0_69 hp_41) (cwV 1 hts gw_s_X12_findsRead3_s_X12_isSign3_243 rfl rfl rfl (by decide +kernel) ⟨Nat.le_of_ble_eq_true rfl, Nat.le_of_ble_eq_true rfl⟩) ⟨z_blind, va_recv hKc hPc (ci := 12) (q0 := 0) rfl rfl, z_pre hPc hKc hDc⟩ rfl rfl hl.1 rfl (lv_room (Nat.le_of_ble_eq_true rfl)) dX12_findsRead_52 ⟨Nat.le_of_ble_eq_true rfl, Nat.le_of_ble_eq_true rfl⟩) hS (fun q _ h => hFc q h) hFc (fun r_54 u t H_53 locs ht hvm hw_55 hB hz1 hk1 hS => ?_)
                replace hP := z_pure hP hk1
                clear hPc hDc hKc
                rcases hw_55 with ⟨rfl, hw_55⟩ | ⟨rfl, hw_55⟩
                · have hw_55 : (n_h0_kindNow_32.toInt = 4 ∧ n_h0_which_33.toInt = (59 : Int)) := hw_55
                  refine lv_if_ne (tgt := 64) hx hb dX12_findsRead_55 (by decide) (fun _ => ?_) (fun c_56 => absurd c_56 (by decide))
                  have hE_57 := hE_50.trans (f_M5s (kn := (mk).toInt) (t := n_t_39) hp_45 hw_55)
                  refine lv_aload_n hx hb dX12_findsRead_64 rfl (lv_at hl 1 rfl) ?_
                  refine lv_iconst (v := 1) hx hb dX12_findsRead_65 (by decide) ?_
                  obtain ⟨hPc, hDc, hFc⟩ := z_sub3 (ws' := [(h0, .inr (12, [.ref a_te, h0_1, h0_2, h0_3, .int mn, h0_5, h0_6, h0_7, h0_8, h0_9, .ref a_fd, h0_11, h0_12, h0_13, h0_14, h0_15, h0_16, h0_17, h0_18, h0_19, h0_20, h0_21, h0_22, .int mk, h0_24, h0_25, h0_26, .ref a_wd, .int n_h0_fault_35, .int n_h0_faultPlace_36, .int mst, .int n_h0_next_31, .int n_h0_kindNow_32, .int n_h0_which_33, .int n_h0_place_34, h0_35, h0_36, h0_37, h0_38, h0_39, h0_40, h0_41, h0_42, h0_43, h0_44, h0_45, h0_46, h0_47, h0_48, h0_49, h0_50, h0_51, h0_52, h0_53, h0_54, h0_55, h0_56, h0_57, h0_58, h0_59, h0_60, h0_61, h0_62, h0_63, h0_64, h0_65, h0_66, h0_67, h0_68, h0_69])), (a_te, .inl (ca_te, 700, .inl fa_te)), (a_wd, .inl (ca_wd, 115, .inl fa_wd))]) hP hD hS hA [0, 1, 2] (by decide) rfl
                  have hKc := hK.sub (tys' := [(ca_te, .int), (ca_wd, .int)]) [0, 1] rfl
                  refine va_callv (va_runV (As := [.int 1]) (rest := []) ⟨hx, hb, hml, hown, hts⟩ (s_X12_take3 l dC dI H_53.size h0 a_te h0_1 h0_2 h0_3 (.int mn) h0_5 h0_6 h0_7 h0_8 h0_9 (.ref a_fd) h0_11 h0_12 h0_13 h0_14 h0_15 h0_16 h0_17 h0_18 h0_19 h0_20 h0_21 h0_22 (.int mk) h0_24 h0_25 h0_26 a_wd n_h0_fault_35 n_h0_faultPlace_36 mst n_h0_next_31 n_h0_kindNow_32 n_h0_which_33 n_h0_place_34 h0_35 h0_36 h0_37 h0_38 h0_39 h0_40 h0_41 h0_42 h0_43 h0_44 h0_45 h0_46 h0_47 h0_48 h0_49 h0_50 h0_51 h0_52 h0_53 h0_54 h0_55 h0_56 h0_57 h0_58 h0_59 h0_60 h0_61 h0_62 h0_63 h0_64 h0_65 h0_66 h0_67 h0_68 h0_69 ca_te fa_te ca_wd fa_wd hB_mst hp_40 hp_41 hp_42 hI_a_te hWD hWX (by first | omega | decide)) (cwV 1 hts gw_s_X12_findsRead3_s_X12_take3_236 rfl rfl rfl (by decide +kernel) ⟨Nat.le_of_ble_eq_true rfl, Nat.le_of_ble_eq_true rfl⟩) ⟨z_blind, va_recv hKc hPc (ci := 12) (q0 := 0) rfl rfl, z_pre hPc hKc hDc⟩ rfl rfl hl.1 rfl (lv_room (Nat.le_of_ble_eq_true rfl)) dX12_findsRead_66 ⟨Nat.le_of_ble_eq_true rfl, Nat.le_of_ble_eq_true rfl⟩) hS (fun q _ h => hFc q h) hFc (fun u t H_58 locs ht hvm hw_60 hB hz1 hk1 hS => ?_)
                  obtain ⟨n_h0_next_61, n_h0_kindNow_62, n_h0_which_63, n_h0_place_64, hp_65, hp_66, hp_67, hp_68, hp_69, hp_70, hp_71, hp_72, hp_73, hP1, hK1, hD1⟩ := hB
                  rw [ht] at hP1
                  have hK1 := va_K.moved hvm.symm hK1
                  obtain ⟨hP, hD⟩ := z_ap_1 (va_join (wr := [(a_fd, .inl (ca_fd, 11520, .inl g_a_fd_37))]) hP hD [0, 1, 2] [3] rfl rfl (by decide) (by decide) hk1 hFc hP1 hD1)
                  have hp_68 : n_h0_next_31.toInt ≤ n_h0_next_61.toInt ∧ n_h0_next_61.toInt ≤ mst.toInt := hp_68
                  have hp_69 : n_h0_kindNow_62.toInt ≤ 8 * (n_h0_next_61.toInt - n_h0_next_31.toInt) := hp_69
                  have hp_70 : n_h0_place_64.toInt ≤ n_h0_next_61.toInt := hp_70
                  have hp_71 : z_tk8 n_h0_kindNow_62.toInt n_h0_next_61.toInt n_h0_place_64.toInt := hp_71
                  have hp_72 : z_tkw n_h0_which_63.toInt n_h0_kindNow_62.toInt := hp_72
                  have hp_73 : f_M fa_te mst.toInt n_h0_next_31.toInt n_h0_kindNow_62.toInt n_h0_which_63.toInt n_h0_next_61.toInt := hp_73
                  clear hPc hDc hKc
                  refine lv_aload_n hx hb dX12_findsRead_69 rfl (lv_at hl 1 rfl) ?_
                  refine va_get (D := (dC, dI)) (ci := 12) (v := .int n_h0_kindNow_62) (C := RX12) (T := TX12) (N := 70) hx hb hts hiX12 hown hK hP 1 rfl rfl 32 (by decide) w__fieldLink_RX12_221_ShellHeapModel_kindNow_I_ (fun _ h9 => h9) rfl dX12_findsRead_70 ?_
                  refine lv_if_ne (tgt := 31) hx hb dX12_findsRead_73 (by decide) (fun c_74 => ?_) (fun c_74 => ?_)
                  · have k_75 : (n_h0_kindNow_62).toInt ≠ (0 : Int) := z_ne c_74
                    exact ih_12 n_h0_next_61 n_h0_kindNow_62 n_h0_which_63 n_h0_place_64 n_h0_fault_35 n_h0_faultPlace_36 g_a_fd_37 _ _ _ (show (701 - (n_h0_next_61).toInt).toNat < n_11 by omega) (show ((0 : Int) ≤ (n_h0_next_61).toInt ∧ (n_h0_next_61).toInt ≤ (700 : Int)) by omega) (show ((0 : Int) ≤ (n_h0_kindNow_62).toInt ∧ (n_h0_kindNow_62).toInt ≤ (7 : Int)) by omega) (show ((0 : Int) ≤ (n_h0_place_64).toInt ∧ (n_h0_place_64).toInt ≤ (700 : Int)) by omega) (show f_L2 fa_te (mst).toInt (mk).toInt pa (n_h0_kindNow_62).toInt (n_h0_which_63).toInt (n_h0_next_61).toInt from ⟨_, hp_73, hE_57.trans (f_M6 (t' := 0) hp_73 (by omega))⟩) (show (n_h0_next_61).toInt ≤ (mst).toInt by omega) (hP.sub (ws' := [(h0, .inr (12, [.ref a_te, h0_1, h0_2, h0_3, .int mn, h0_5, h0_6, h0_7, h0_8, h0_9, .ref a_fd, h0_11, h0_12, h0_13, h0_14, h0_15, h0_16, h0_17, h0_18, h0_19, h0_20, h0_21, h0_22, .int mk, h0_24, h0_25, h0_26, .ref a_wd, .int n_h0_fault_35, .int n_h0_faultPlace_36, .int mst, .int n_h0_next_61, .int n_h0_kindNow_62, .int n_h0_which_63, .int n_h0_place_64, h0_35, h0_36, h0_37, h0_38, h0_39, h0_40, h0_41, h0_42, h0_43, h0_44, h0_45, h0_46, h0_47, h0_48, h0_49, h0_50, h0_51, h0_52, h0_53, h0_54, h0_55, h0_56, h0_57, h0_58, h0_59, h0_60, h0_61, h0_62, h0_63, h0_64, h0_65, h0_66, h0_67, h0_68, h0_69])), (a_te, .inl (ca_te, 700, .inl fa_te)), (a_wd, .inl (ca_wd, 115, .inl fa_wd)), (a_fd, .inl (ca_fd, 11520, .inl g_a_fd_37))]) [1, 2, 3, 0] rfl) (hD.sub (ws' := [(h0, .inr (12, [.ref a_te, h0_1, h0_2, h0_3, .int mn, h0_5, h0_6, h0_7, h0_8, h0_9, .ref a_fd, h0_11, h0_12, h0_13, h0_14, h0_15, h0_16, h0_17, h0_18, h0_19, h0_20, h0_21, h0_22, .int mk, h0_24, h0_25, h0_26, .ref a_wd, .int n_h0_fault_35, .int n_h0_faultPlace_36, .int mst, .int n_h0_next_61, .int n_h0_kindNow_62, .int n_h0_which_63, .int n_h0_place_64, h0_35, h0_36, h0_37, h0_38, h0_39, h0_40, h0_41, h0_42, h0_43, h0_44, h0_45, h0_46, h0_47, h0_48, h0_49, h0_50, h0_51, h0_52, h0_53, h0_54, h0_55, h0_56, h0_57, h0_58, h0_59, h0_60, h0_61, h0_62, h0_63, h0_64, h0_65, h0_66, h0_67, h0_68, h0_69])), (a_te, .inl (ca_te, 700, .inl fa_te)), (a_wd, .inl (ca_wd, 115, .inl fa_wd)), (a_fd, .inl (ca_fd, 11520, .inl g_a_fd_37))]) [1, 2, 3, 0] (by decide) rfl) hS (lv_sub hl [0, 1] rfl)
                  · have k_76 : (n_h0_kindNow_62).toInt = (0 : Int) := z_eq c_74
                    obtain rfl : n_h0_kindNow_62 = 0 := z_eq' (show (n_h0_kindNow_62).toInt = (0 : Int) by omega)
                    refine lv_iconst (v := 1) hx hb dX12_findsRead_76 (by decide) ?_
                    refine z_backQ hQQ ?_
                    obtain ⟨hP9, hD9⟩ := z_sub2 (ws' := [(h0, .inr (12, [.ref a_te, h0_1, h0_2, h0_3, .int mn, h0_5, h0_6, h0_7, h0_8, h0_9, .ref a_fd, h0_11, h0_12, h0_13, h0_14, h0_15, h0_16, h0_17, h0_18, h0_19, h0_20, h0_21, h0_22, .int mk, h0_24, h0_25, h0_26, .ref a_wd, .int n_h0_fault_35, .int n_h0_faultPlace_36, .int mst, .int n_h0_next_61, .int 0, .int n_h0_which_63, .int n_h0_place_64, h0_35, h0_36, h0_37, h0_38, h0_39, h0_40, h0_41, h0_42, h0_43, h0_44, h0_45, h0_46, h0_47, h0_48, h0_49, h0_50, h0_51, h0_52, h0_53, h0_54, h0_55, h0_56, h0_57, h0_58, h0_59, h0_60, h0_61, h0_62, h0_63, h0_64, h0_65, h0_66, h0_67, h0_68, h0_69])), (a_te, .inl (ca_te, 700, .inl fa_te)), (a_wd, .inl (ca_wd, 115, .inl fa_wd)), (a_fd, .inl (ca_fd, 11520, .inl g_a_fd_37))]) hP hD [1, 2, 3, 0] (by decide) rfl
                    have hK9 := hK.sub (tys' := []) [] rfl
                    refine W.widen (k := 0) (n := 0) (Nat.le_of_ble_eq_true rfl) (Nat.le_of_ble_eq_true rfl) ?_
                    exact W.zret (v := 1) hx hb hr (by rfl) (fun t ht hW => ⟨⟨1, (), rfl, (Or.inl (⟨rfl, hE_57.mpr (f_M6e hp_73 (by first | omega | decide))⟩)), ⟨n_h0_next_61, 0, n_h0_which_63, n_h0_place_64, n_h0_fault_35, n_h0_faultPlace_36, g_a_fd_37, hp_65, (by decide), hp_67, by rw [ht]; exact hP9, va_K.moved hW.alike hK9, hD9⟩⟩, hS.F ht⟩) hS.2.2 dX12_findsRead_77
                · have hw_55 : ¬ (n_h0_kindNow_32.toInt = 4 ∧ n_h0_which_33.toInt = (59 : Int)) := hw_55
                  refine lv_if_ne (tgt := 64) hx hb dX12_findsRead_55 (by decide) (fun c_78 => absurd c_78 (by decide)) (fun _ => ?_)
                  refine lv_aload_n hx hb dX12_findsRead_58 rfl (lv_at hl 1 rfl) ?_
                  refine lv_iconst (v := 1) hx hb dX12_findsRead_59 (by decide) ?_
                  obtain ⟨hPc, hDc, hFc⟩ := z_sub3 (ws' := [(h0, .inr (12, [.ref a_te, h0_1, h0_2, h0_3, .int mn, h0_5, h0_6, h0_7, h0_8, h0_9, .ref a_fd, h0_11, h0_12, h0_13, h0_14, h0_15, h0_16, h0_17, h0_18, h0_19, h0_20, h0_21, h0_22, .int mk, h0_24, h0_25, h0_26, .ref a_wd, .int n_h0_fault_35, .int n_h0_faultPlace_36, .int mst, .int n_h0_next_31, .int n_h0_kindNow_32, .int n_h0_which_33, .int n_h0_place_34, h0_35, h0_36, h0_37, h0_38, h0_39, h0_40, h0_41, h0_42, h0_43, h0_44, h0_45, h0_46, h0_47, h0_48, h0_49, h0_50, h0_51, h0_52, h0_53, h0_54, h0_55, h0_56, h0_57, h0_58, h0_59, h0_60, h0_61, h0_62, h0_63, h0_64, h0_65, h0_66, h0_67, h0_68, h0_69]))]) hP hD hS hA [0] (by decide) rfl
                  have hKc := hK.sub (tys' := []) [] rfl
                  refine va_calli (va_runV (As := [.int 1]) (rest := []) ⟨hx, hb, hml, hown, hts⟩ (s_X12_wrong l dC dI H_53.size h0 1 (.ref a_te) h0_1 h0_2 h0_3 (.int mn) h0_5 h0_6 h0_7 h0_8 h0_9 (.ref a_fd) h0_11 h0_12 h0_13 h0_14 h0_15 h0_16 h0_17 h0_18 h0_19 h0_20 h0_21 h0_22 (.int mk) h0_24 h0_25 h0_26 (.ref a_wd) n_h0_fault_35 n_h0_faultPlace_36 mst n_h0_next_31 n_h0_kindNow_32 n_h0_which_33 n_h0_place_34 h0_35 h0_36 h0_37 h0_38 h0_39 h0_40 h0_41 h0_42 h0_43 h0_44 h0_45 h0_46 h0_47 h0_48 h0_49 h0_50 h0_51 h0_52 h0_53 h0_54 h0_55 h0_56 h0_57 h0_58 h0_59 h0_60 h0_61 h0_62 h0_63 h0_64 h0_65 h0_66 h0_67 h0_68 h0_69) (cwV 1 hts gw_s_X12_findsRead3_s_X12_wrong_240 rfl rfl rfl (by decide +kernel) ⟨Nat.le_of_ble_eq_true rfl, Nat.le_of_ble_eq_true rfl⟩) ⟨z_blind, va_recv hKc hPc (ci := 12) (q0 := 0) rfl rfl, z_pre hPc hKc hDc⟩ rfl rfl hl.1 rfl (lv_room (Nat.le_of_ble_eq_true rfl)) dX12_findsRead_60 ⟨Nat.le_of_ble_eq_true rfl, Nat.le_of_ble_eq_true rfl⟩) hS (fun q _ h => hFc q h) hFc (fun r_80 u t H_79 locs ht hvm hw_81 hB hz1 hk1 hS => ?_)
                  obtain ⟨n_h0_fault_82, n_h0_faultPlace_83, hP1, hK1, hD1⟩ := hB
                  rw [ht] at hP1
                  have hK1 := va_K.moved hvm.symm hK1
                  obtain ⟨hP, hD⟩ := z_ap_3 (va_join (wr := [(a_te, .inl (ca_te, 700, .inl fa_te)), (a_wd, .inl (ca_wd, 115, .inl fa_wd)), (a_fd, .inl (ca_fd, 11520, .inl g_a_fd_37))]) hP hD [0] [1, 2, 3] rfl rfl (by decide) (by decide) hk1 hFc hP1 hD1)
                  clear hPc hDc hKc
                  obtain rfl : r_80 = 0 := hw_81
                  refine z_backQ hQQ ?_
                  obtain ⟨hP9, hD9⟩ := z_sub2 (ws' := [(h0, .inr (12, [.ref a_te, h0_1, h0_2, h0_3, .int mn, h0_5, h0_6, h0_7, h0_8, h0_9, .ref a_fd, h0_11, h0_12, h0_13, h0_14, h0_15, h0_16, h0_17, h0_18, h0_19, h0_20, h0_21, h0_22, .int mk, h0_24, h0_25, h0_26, .ref a_wd, .int n_h0_fault_82, .int n_h0_faultPlace_83, .int mst, .int n_h0_next_31, .int n_h0_kindNow_32, .int n_h0_which_33, .int n_h0_place_34, h0_35, h0_36, h0_37, h0_38, h0_39, h0_40, h0_41, h0_42, h0_43, h0_44, h0_45, h0_46, h0_47, h0_48, h0_49, h0_50, h0_51, h0_52, h0_53, h0_54, h0_55, h0_56, h0_57, h0_58, h0_59, h0_60, h0_61, h0_62, h0_63, h0_64, h0_65, h0_66, h0_67, h0_68, h0_69])), (a_te, .inl (ca_te, 700, .inl fa_te)), (a_wd, .inl (ca_wd, 115, .inl fa_wd)), (a_fd, .inl (ca_fd, 11520, .inl g_a_fd_37))]) hP hD [3, 0, 1, 2] (by decide) rfl
                  have hK9 := hK.sub (tys' := []) [] rfl
                  refine W.widen (k := 0) (n := 0) (Nat.le_of_ble_eq_true rfl) (Nat.le_of_ble_eq_true rfl) ?_
                  exact W.zret (v := 0) hx hb hr (by rfl) (fun t ht hW => ⟨⟨0, (), rfl, (Or.inr (⟨rfl, f_not hE_50 (f_M5n hp_45 (by omega) hw_55 hp_47)⟩)), ⟨n_h0_next_31, n_h0_kindNow_32, n_h0_which_33, n_h0_place_34, n_h0_fault_82, n_h0_faultPlace_83, g_a_fd_37, hp_40, hp_41, hp_42, by rw [ht]; exact hP9, va_K.moved hW.alike hK9, hD9⟩⟩, hS.F ht⟩) hS.2.2 dX12_findsRead_63
              · have k_84 : (n_h0_kindNow_32).toInt = (0 : Int) := z_eq c_51
                obtain rfl : n_h0_kindNow_32 = 0 := z_eq' (show (n_h0_kindNow_32).toInt = (0 : Int) by omega)
                refine lv_iconst (v := 1) hx hb dX12_findsRead_47 (by decide) ?_
                refine z_backQ hQQ ?_
                have hP9 := hP
                have hD9 := hD
                have hK9 := hK.sub (tys' := []) [] rfl
                refine W.widen (k := 0) (n := 0) (Nat.le_of_ble_eq_true rfl) (Nat.le_of_ble_eq_true rfl) ?_
                exact W.zret (v := 1) hx hb hr (by rfl) (fun t ht hW => ⟨⟨1, (), rfl, (Or.inl (⟨rfl, hE_50.mpr (f_M5e hp_45 (by first | omega | decide))⟩)), ⟨n_h0_next_31, 0, n_h0_which_33, n_h0_place_34, n_h0_fault_35, n_h0_faultPlace_36, g_a_fd_37, hp_40, (by decide), hp_42, by rw [ht]; exact hP9, va_K.moved hW.alike hK9, hD9⟩⟩, hS.F ht⟩) hS.2.2 dX12_findsRead_48
            · have hw_30 : True := hw_30
              have hp_48 : ¬ f_E fa_te mst.toInt mk.toInt 0 0 a_25 := hp_48 rfl
              refine lv_if_ne (tgt := 40) hx hb dX12_findsRead_35 (by decide) (fun c_86 => absurd c_86 (by decide)) (fun _ => ?_)
              refine lv_iconst (v := 0) hx hb dX12_findsRead_38 (by decide) ?_
              refine z_backQ hQQ ?_
              have hP9 := hP
              have hD9 := hD
              have hK9 := hK.sub (tys' := []) [] rfl
              refine W.widen (k := 0) (n := 0) (Nat.le_of_ble_eq_true rfl) (Nat.le_of_ble_eq_true rfl) ?_
              exact W.zret (v := 0) hx hb hr (by rfl) (fun t ht hW => ⟨⟨0, (), rfl, (Or.inr (⟨rfl, f_not hEe_27 (hp_48)⟩)), ⟨n_h0_next_31, n_h0_kindNow_32, n_h0_which_33, n_h0_place_34, n_h0_fault_35, n_h0_faultPlace_36, g_a_fd_37, hp_40, hp_41, hp_42, by rw [ht]; exact hP9, va_K.moved hW.alike hK9, hD9⟩⟩, hS.F ht⟩) hS.2.2 dX12_findsRead_39
        exact loop_10 _ mnx mkd mwh mpl mf mfp f_5 _ _ _ (Nat.lt_succ_self _) (show ((0 : Int) ≤ (mnx).toInt ∧ (mnx).toInt ≤ (700 : Int)) by omega) (show ((0 : Int) ≤ (mkd).toInt ∧ (mkd).toInt ≤ (7 : Int)) by omega) (show ((0 : Int) ≤ (mpl).toInt ∧ (mpl).toInt ≤ (700 : Int)) by omega) (show f_L2 fa_te (mst).toInt (mk).toInt pa (mkd).toInt (mwh).toInt (mnx).toInt from ⟨pa, hM, Iff.rfl⟩) (show (mnx).toInt ≤ (mst).toInt by omega) hP hD hS hl
      · have k_87 : (144 : Int) > (i_4).toInt := z_nle c_7
        refine lv_aload_n hx hb dX12_findsRead_9 rfl (lv_at hl 1 rfl) ?_
        refine va_get (D := (dC, dI)) (ci := 12) (v := .ref a_fd) (C := RX12) (T := TX12) (N := 70) hx hb hts hiX12 hown hK hP 0 rfl rfl 10 (by decide) w__fieldLink_RX12_29_ShellHeapModel_found_I_ (fun _ h9 => h9) rfl dX12_findsRead_10 ?_
        refine lv_sipush (v := 144) hx hb dX12_findsRead_13 (by decide) ?_
        refine lv_aload_n hx hb dX12_findsRead_16 rfl (lv_at hl 1 rfl) ?_
        refine va_get (D := (dC, dI)) (ci := 12) (v := .int mn) (C := RX12) (T := TX12) (N := 70) hx hb hts hiX12 hown hK hP 0 rfl rfl 4 (by decide) w__fieldLink_RX12_154_ShellHeapModel_notes_I_ (fun _ h9 => h9) rfl dX12_findsRead_17 ?_
        refine lv_imul hx hb dX12_findsRead_20 ?_
        refine lv_topi (fun z_88 ez_88 => ?_)
        have kz_88 : (z_88).toInt = (144 : Int) * (mn).toInt := by rw [ez_88]; exact z_mul (a := (144 : Int)) (b := (mn).toInt) rfl rfl (by omega) (by omega)
        refine lv_iload_n hx hb dX12_findsRead_21 rfl (lv_at hl 0 rfl) ?_
        refine lv_iadd hx hb dX12_findsRead_22 ?_
        refine lv_topi (fun z_89 ez_89 => ?_)
        have kz_89 : (z_89).toInt = (z_88).toInt + (i_4).toInt := by rw [ez_89]; exact z_add (a := (z_88).toInt) (b := (i_4).toInt) rfl rfl (by omega) (by omega)
        refine lv_iconst (v := 0) hx hb dX12_findsRead_23 (by decide) ?_
        refine va_iast hx hb hK hP hD hS 3 2 rfl rfl (z_vpin (by omega) (by omega)) dX12_findsRead_24 (fun H_90 locs hP hD hS => ?_)
        obtain ⟨hP, hD⟩ := z_s_3 hP hD
        generalize (upd f_5 (z_89 : Int32).toNatClampNeg 0) = f_91 at hP hD
        obtain ⟨z_92, ez_92⟩ : ∃ y : Int32, y = i_4 + 1 := ⟨_, rfl⟩
        have kz_92 : (z_92).toInt = (i_4).toInt + (1 : Int) := by rw [ez_92]; exact z_add (b := 1) rfl rfl (z_al hF_6.1 (by decide)) (z_ah hF_6.2 (by decide))
        refine lv_iinc (v := z_92) (lv' := [(1, .int z_92), (0, .ref h0)]) hx hb dX12_findsRead_25 hl (k := 0) rfl (by rw [ez_92]; rfl) (by decide) rfl (fun ls hl => ?_)
        refine lv_goto (tgt := 2) hx hb dX12_findsRead_28 (by decide) ?_
        exact ih_3 z_92 f_91 _ _ _ (show (145 - (z_92).toInt).toNat < n_2 by omega) (show ((0 : Int) ≤ (z_92).toInt ∧ (z_92).toInt ≤ (144 : Int)) by omega) hP hD hS (lv_sub hl [0, 1] rfl)
  exact loop_1 _ 0 fa_fd _ _ _ (Nat.lt_succ_self _) (show ((0 : Int) ≤ (0 : Int) ∧ (0 : Int) ≤ (144 : Int)) by omega) hP hD hS hl
def u_s_X11_layerA : List Cond := .code yX11_layer cX11_layer 1 (some .int) :: ([.fieldLink RX11 19 "ShellHeap" "book" "LShellHeap$Book;", .fieldLink RX11 137 "ShellHeap$Book" "layers" "I"] ++ (wsX110 ++ (wsX00 ++ [])))
set_option maxHeartbeats 4000000 in
set_option maxRecDepth 100000 in
theorem s_X11_layerA (l : Launch) (dC : Nat → ClassId) (dI : Nat → Nat → Nat) (sz : Nat) (h0 : Nat) (h0_0 : Value) (h1 : Nat) (h0_2 : Value) (h0_3 : Value) (h0_4 : Value) (h0_5 : Value) (h0_6 : Value) (h0_7 : Value) (h0_8 : Value) (h0_9 : Value) (h1_0 : Value) (h1_1 : Value) (h1_2 : Value) (h1_3 : Value) (h1_4 : Value) (bl : Int32) (hB_bl : ((0 : Int) ≤ (bl).toInt ∧ (bl).toInt ≤ (12 : Int))) : Met l yX11_layer u_s_X11_layerA ({ frames := 0, cells := 0, slots := 0, locals := 0 }) (va_Pc [.ref h0] (z_C (dC, dI) vwCl [(h0, .inr (11, [h0_0, .ref h1, h0_2, h0_3, h0_4, h0_5, h0_6, h0_7, h0_8, h0_9])), (h1, .inr (0, [h1_0, h1_1, h1_2, h1_3, h1_4, .int bl]))] [] sz)) (va_Qi (fun (r : Int32) (_ : Unit) => r = v_layA bl) (fun (_ : Unit) (t : State) => ∃ (n_h1_layers : Int32), ((0 : Int) ≤ (n_h1_layers).toInt ∧ (n_h1_layers).toInt ≤ (12 : Int)) ∧ (n_h1_layers = v_layN bl) ∧ va_P (dC, dI) vwCl [(h0, .inr (11, [h0_0, .ref h1, h0_2, h0_3, h0_4, h0_5, h0_6, h0_7, h0_8, h0_9])), (h1, .inr (0, [h1_0, h1_1, h1_2, h1_3, h1_4, .int n_h1_layers]))] t.heap ∧ va_K (dC, dI) vwCl [] t ∧ va_D (va_A [(h0, .inr (11, [h0_0, .ref h1, h0_2, h0_3, h0_4, h0_5, h0_6, h0_7, h0_8, h0_9])), (h1, .inr (0, [h1_0, h1_1, h1_2, h1_3, h1_4, .int bl]))] sz) [(h0, .inr (11, [h0_0, .ref h1, h0_2, h0_3, h0_4, h0_5, h0_6, h0_7, h0_8, h0_9])), (h1, .inr (0, [h1_0, h1_1, h1_2, h1_3, h1_4, .int n_h1_layers]))]) (va_A [(h0, .inr (11, [h0_0, .ref h1, h0_2, h0_3, h0_4, h0_5, h0_6, h0_7, h0_8, h0_9])), (h1, .inr (0, [h1_0, h1_1, h1_2, h1_3, h1_4, .int bl]))] sz)) 0 0 (va_A [(h0, .inr (11, [h0_0, .ref h1, h0_2, h0_3, h0_4, h0_5, h0_6, h0_7, h0_8, h0_9])), (h1, .inr (0, [h1_0, h1_1, h1_2, h1_3, h1_4, .int bl]))] sz) := by
  refine Met.ofW (cc := cX11_layer) (maxL := 1) (ret := (some .int)) (by decide) rfl ?_
  intro p e s m args below meth c s₁ B hml hv
  obtain ⟨rfl, hsz, hP, hK, hD0⟩ := hv
  have hx := B.exec
  have hb := B.bytes
  have hr := B.returns
  have hts := atoms_spec (ws := u_s_X11_layerA) B.pre
  have hown : s.vm.findClass RX11 = some m.cls := findClass_of_methodNamed B.named
  have hlocks := B.notSynchronized
  subst hsz
  have hD := hD0.self (sz := s.heap.size)
  generalize hAe : va_A [(h0, .inr (11, [h0_0, .ref h1, h0_2, h0_3, h0_4, h0_5, h0_6, h0_7, h0_8, h0_9])), (h1, .inr (0, [h1_0, h1_1, h1_2, h1_3, h1_4, .int bl]))] s.heap.size = A at hD ⊢
  have hA : ∀ q : Nat, s.heap.size ≤ q → A q := fun q h => by rw [← hAe]; exact Or.inr h
  have hS : va_S A s.heap s.heap [] := va_S.rf
  have hP : va_P (dC, dI) vwCl [(h0, .inr (11, [h0_0, .ref h1, h0_2, h0_3, h0_4, h0_5, h0_6, h0_7, h0_8, h0_9])), (h1, .inr (0, [h1_0, h1_1, h1_2, h1_3, h1_4, .int bl]))] s.heap := hP
  have w__fieldLink_RX11_19_ShellHeap_book_LShellHeap_Book_ := hts (.fieldLink RX11 19 "ShellHeap" "book" "LShellHeap$Book;") (z_mc (z_ml z_m0))
  have hiX11 := show ∀ w ∈ u_ws RX11 TX11 10, w ∈ u_s_X11_layerA from fun w h => z_mc (z_mr (z_ml h))
  have w__fieldLink_RX11_137_ShellHeap_Book_layers_I_ := hts (.fieldLink RX11 137 "ShellHeap$Book" "layers" "I") (z_mc (z_ml z_m1))
  have hiX0 := show ∀ w ∈ u_ws RX0 TX0 6, w ∈ u_s_X11_layerA from fun w h => z_mc (z_mr (z_mr (z_ml h)))
  have hl := lv_entry ([.ref h0]) (n := 1) (Nat.le_of_ble_eq_true rfl)
  rw [lg_entry_eq]
  generalize (lg_sl ([.ref h0]) ++ List.replicate (1 - (lg_sl ([.ref h0])).length) Slot.unset).toArray = ls at hl ⊢
  have hl : lv_has ls 1 [(0, .ref h0)] := hl
  refine lv_aload_n hx hb dX11_layer_0 rfl (lv_at hl 0 rfl) ?_
  refine va_get (D := (dC, dI)) (ci := 11) (v := .ref h1) (C := RX11) (T := TX11) (N := 10) hx hb hts hiX11 hown hK hP 0 rfl rfl 1 (by decide) w__fieldLink_RX11_19_ShellHeap_book_LShellHeap_Book_ (fun _ h9 => h9) rfl dX11_layer_1 ?_
  refine va_get (D := (dC, dI)) (ci := 0) (v := .int bl) (C := RX0) (T := TX0) (N := 6) hx hb hts hiX0 hown hK hP 1 rfl rfl 5 (by decide) w__fieldLink_RX11_137_ShellHeap_Book_layers_I_ (fun _ h9 => h9) rfl dX11_layer_4 ?_
  refine lv_bipush (v := 12) hx hb dX11_layer_7 (by decide) ?_
  refine lv_icmp_lt (tgt := 14) hx hb dX11_layer_9 (by decide) (fun c_1 => ?_) (fun c_1 => ?_)
  · have k_2 : (bl).toInt < (12 : Int) := z_lt c_1
    refine lv_aload_n hx hb dX11_layer_14 rfl (lv_at hl 0 rfl) ?_
    refine va_get (D := (dC, dI)) (ci := 11) (v := .ref h1) (C := RX11) (T := TX11) (N := 10) hx hb hts hiX11 hown hK hP 0 rfl rfl 1 (by decide) w__fieldLink_RX11_19_ShellHeap_book_LShellHeap_Book_ (fun _ h9 => h9) rfl dX11_layer_15 ?_
    refine lv_dup hx hb dX11_layer_18 rfl ?_
    refine va_get (D := (dC, dI)) (ci := 0) (v := .int bl) (C := RX0) (T := TX0) (N := 6) hx hb hts hiX0 hown hK hP 1 rfl rfl 5 (by decide) w__fieldLink_RX11_137_ShellHeap_Book_layers_I_ (fun _ h9 => h9) rfl dX11_layer_19 ?_
    refine lv_iconst (v := 1) hx hb dX11_layer_22 (by decide) ?_
    refine lv_iadd hx hb dX11_layer_23 ?_
    refine lv_topi (fun z_3 ez_3 => ?_)
    have kz_3 : (z_3).toInt = (bl).toInt + (1 : Int) := by rw [ez_3]; exact z_add (a := (bl).toInt) (b := (1 : Int)) rfl rfl (z_al hB_bl.1 (by decide)) (z_ah hB_bl.2 (by decide))
    refine va_put (D := (dC, dI)) (ci := 0) (v := .int z_3) (ty := .int) (C := RX0) (T := TX0) (N := 6) hx hb hts hiX0 tyX0 tyX0_ok nmX0 hown hK hP hD hS 1 rfl rfl 5 (by decide) w__fieldLink_RX11_137_ShellHeap_Book_layers_I_ (fun _ h9 => h9) rfl (by decide +kernel) rfl rfl (Nat.le_of_ble_eq_true rfl) dX11_layer_24 (fun H_4 locs hP hD hS => ?_)
    obtain ⟨hP, hD⟩ := z_s_1_5 hP hD
    refine lv_aload_n hx hb dX11_layer_27 rfl (lv_at hl 0 rfl) ?_
    refine va_get (D := (dC, dI)) (ci := 11) (v := .ref h1) (C := RX11) (T := TX11) (N := 10) hx hb hts hiX11 hown hK hP 0 rfl rfl 1 (by decide) w__fieldLink_RX11_19_ShellHeap_book_LShellHeap_Book_ (fun _ h9 => h9) rfl dX11_layer_28 ?_
    refine va_get (D := (dC, dI)) (ci := 0) (v := .int z_3) (C := RX0) (T := TX0) (N := 6) hx hb hts hiX0 hown hK hP 1 rfl rfl 5 (by decide) w__fieldLink_RX11_137_ShellHeap_Book_layers_I_ (fun _ h9 => h9) rfl dX11_layer_31 ?_
    refine lv_iconst (v := 1) hx hb dX11_layer_34 (by decide) ?_
    refine lv_isub hx hb dX11_layer_35 ?_
    refine lv_topi (fun z_5 ez_5 => ?_)
    have kz_5 : (z_5).toInt = (z_3).toInt - (1 : Int) := by rw [ez_5]; exact z_sub (a := (z_3).toInt) (b := (1 : Int)) rfl rfl (by omega) (by omega)
    have hP9 := hP
    have hD9 := hD
    have hK9 := hK.sub (tys' := []) [] rfl
    refine W.widen (k := 0) (n := 0) (Nat.le_of_ble_eq_true rfl) (Nat.le_of_ble_eq_true rfl) ?_
    exact W.iret (v := z_5) hx hb hr (fun t ht hW => ⟨⟨z_5, (), rfl, (show z_5 = v_layA bl by unfold v_layA; rw [if_pos (by omega)]; first | exact ez_5 | exact z_ii (by omega)), ⟨z_3, (by first | omega | decide), (show z_3 = v_layN bl by unfold v_layN; rw [if_pos (by omega)]; exact ez_3), by rw [ht]; exact hP9, va_K.moved hW.alike hK9, hD9⟩⟩, hS.F ht⟩) hS.2.2 dX11_layer_36
  · have k_6 : (bl).toInt ≥ (12 : Int) := z_nlt c_1
    refine lv_iconst (v := (-1)) hx hb dX11_layer_12 (by decide) ?_
    have hP9 := hP
    have hD9 := hD
    have hK9 := hK.sub (tys' := []) [] rfl
    refine W.widen (k := 0) (n := 0) (Nat.le_of_ble_eq_true rfl) (Nat.le_of_ble_eq_true rfl) ?_
    exact W.iret (v := (-1)) hx hb hr (fun t ht hW => ⟨⟨(-1), (), rfl, (show (-1) = v_layA bl by unfold v_layA; rw [if_neg (by omega)]), ⟨bl, hB_bl, (show bl = v_layN bl by unfold v_layN; rw [if_neg (by omega)]), by rw [ht]; exact hP9, va_K.moved hW.alike hK9, hD9⟩⟩, hS.F ht⟩) hS.2.2 dX11_layer_13
def u_s_X12_layerA : List Cond := .code yX12_layer cX12_layer 1 (some .int) :: ([.fieldLink RX12 145 "ShellHeapModel" "thrown" "I", .fieldLink RX12 151 "ShellHeapModel" "layers" "I"] ++ (wsX120 ++ []))
set_option maxHeartbeats 4000000 in
set_option maxRecDepth 100000 in
theorem s_X12_layerA (l : Launch) (dC : Nat → ClassId) (dI : Nat → Nat → Nat) (sz : Nat) (h0 : Nat) (h0_0 : Value) (h0_1 : Value) (mx : Int32) (ml : Int32) (h0_4 : Value) (h0_5 : Value) (h0_6 : Value) (h0_7 : Value) (h0_8 : Value) (h0_9 : Value) (h0_10 : Value) (h0_11 : Value) (h0_12 : Value) (h0_13 : Value) (h0_14 : Value) (h0_15 : Value) (h0_16 : Value) (h0_17 : Value) (h0_18 : Value) (h0_19 : Value) (h0_20 : Value) (h0_21 : Value) (h0_22 : Value) (h0_23 : Value) (h0_24 : Value) (h0_25 : Value) (h0_26 : Value) (h0_27 : Value) (h0_28 : Value) (h0_29 : Value) (h0_30 : Value) (h0_31 : Value) (h0_32 : Value) (h0_33 : Value) (h0_34 : Value) (h0_35 : Value) (h0_36 : Value) (h0_37 : Value) (h0_38 : Value) (h0_39 : Value) (h0_40 : Value) (h0_41 : Value) (h0_42 : Value) (h0_43 : Value) (h0_44 : Value) (h0_45 : Value) (h0_46 : Value) (h0_47 : Value) (h0_48 : Value) (h0_49 : Value) (h0_50 : Value) (h0_51 : Value) (h0_52 : Value) (h0_53 : Value) (h0_54 : Value) (h0_55 : Value) (h0_56 : Value) (h0_57 : Value) (h0_58 : Value) (h0_59 : Value) (h0_60 : Value) (h0_61 : Value) (h0_62 : Value) (h0_63 : Value) (h0_64 : Value) (h0_65 : Value) (h0_66 : Value) (h0_67 : Value) (h0_68 : Value) (h0_69 : Value) (hB_ml : ((0 : Int) ≤ (ml).toInt ∧ (ml).toInt ≤ (12 : Int))) : Met l yX12_layer u_s_X12_layerA ({ frames := 0, cells := 0, slots := 0, locals := 0 }) (va_Pc [.ref h0] (z_C (dC, dI) vwCl [(h0, .inr (12, [h0_0, h0_1, .int mx, .int ml, h0_4, h0_5, h0_6, h0_7, h0_8, h0_9, h0_10, h0_11, h0_12, h0_13, h0_14, h0_15, h0_16, h0_17, h0_18, h0_19, h0_20, h0_21, h0_22, h0_23, h0_24, h0_25, h0_26, h0_27, h0_28, h0_29, h0_30, h0_31, h0_32, h0_33, h0_34, h0_35, h0_36, h0_37, h0_38, h0_39, h0_40, h0_41, h0_42, h0_43, h0_44, h0_45, h0_46, h0_47, h0_48, h0_49, h0_50, h0_51, h0_52, h0_53, h0_54, h0_55, h0_56, h0_57, h0_58, h0_59, h0_60, h0_61, h0_62, h0_63, h0_64, h0_65, h0_66, h0_67, h0_68, h0_69]))] [] sz)) (va_Qi (fun (r : Int32) (_ : Unit) => r = v_layA ml) (fun (_ : Unit) (t : State) => ∃ (n_h0_thrown : Int32), ∃ (n_h0_layers : Int32), ((0 : Int) ≤ (n_h0_layers).toInt ∧ (n_h0_layers).toInt ≤ (12 : Int)) ∧ (n_h0_layers = v_layN ml) ∧ va_P (dC, dI) vwCl [(h0, .inr (12, [h0_0, h0_1, .int n_h0_thrown, .int n_h0_layers, h0_4, h0_5, h0_6, h0_7, h0_8, h0_9, h0_10, h0_11, h0_12, h0_13, h0_14, h0_15, h0_16, h0_17, h0_18, h0_19, h0_20, h0_21, h0_22, h0_23, h0_24, h0_25, h0_26, h0_27, h0_28, h0_29, h0_30, h0_31, h0_32, h0_33, h0_34, h0_35, h0_36, h0_37, h0_38, h0_39, h0_40, h0_41, h0_42, h0_43, h0_44, h0_45, h0_46, h0_47, h0_48, h0_49, h0_50, h0_51, h0_52, h0_53, h0_54, h0_55, h0_56, h0_57, h0_58, h0_59, h0_60, h0_61, h0_62, h0_63, h0_64, h0_65, h0_66, h0_67, h0_68, h0_69]))] t.heap ∧ va_K (dC, dI) vwCl [] t ∧ va_D (va_A [(h0, .inr (12, [h0_0, h0_1, .int mx, .int ml, h0_4, h0_5, h0_6, h0_7, h0_8, h0_9, h0_10, h0_11, h0_12, h0_13, h0_14, h0_15, h0_16, h0_17, h0_18, h0_19, h0_20, h0_21, h0_22, h0_23, h0_24, h0_25, h0_26, h0_27, h0_28, h0_29, h0_30, h0_31, h0_32, h0_33, h0_34, h0_35, h0_36, h0_37, h0_38, h0_39, h0_40, h0_41, h0_42, h0_43, h0_44, h0_45, h0_46, h0_47, h0_48, h0_49, h0_50, h0_51, h0_52, h0_53, h0_54, h0_55, h0_56, h0_57, h0_58, h0_59, h0_60, h0_61, h0_62, h0_63, h0_64, h0_65, h0_66, h0_67, h0_68, h0_69]))] sz) [(h0, .inr (12, [h0_0, h0_1, .int n_h0_thrown, .int n_h0_layers, h0_4, h0_5, h0_6, h0_7, h0_8, h0_9, h0_10, h0_11, h0_12, h0_13, h0_14, h0_15, h0_16, h0_17, h0_18, h0_19, h0_20, h0_21, h0_22, h0_23, h0_24, h0_25, h0_26, h0_27, h0_28, h0_29, h0_30, h0_31, h0_32, h0_33, h0_34, h0_35, h0_36, h0_37, h0_38, h0_39, h0_40, h0_41, h0_42, h0_43, h0_44, h0_45, h0_46, h0_47, h0_48, h0_49, h0_50, h0_51, h0_52, h0_53, h0_54, h0_55, h0_56, h0_57, h0_58, h0_59, h0_60, h0_61, h0_62, h0_63, h0_64, h0_65, h0_66, h0_67, h0_68, h0_69]))]) (va_A [(h0, .inr (12, [h0_0, h0_1, .int mx, .int ml, h0_4, h0_5, h0_6, h0_7, h0_8, h0_9, h0_10, h0_11, h0_12, h0_13, h0_14, h0_15, h0_16, h0_17, h0_18, h0_19, h0_20, h0_21, h0_22, h0_23, h0_24, h0_25, h0_26, h0_27, h0_28, h0_29, h0_30, h0_31, h0_32, h0_33, h0_34, h0_35, h0_36, h0_37, h0_38, h0_39, h0_40, h0_41, h0_42, h0_43, h0_44, h0_45, h0_46, h0_47, h0_48, h0_49, h0_50, h0_51, h0_52, h0_53, h0_54, h0_55, h0_56, h0_57, h0_58, h0_59, h0_60, h0_61, h0_62, h0_63, h0_64, h0_65, h0_66, h0_67, h0_68, h0_69]))] sz)) 0 0 (va_A [(h0, .inr (12, [h0_0, h0_1, .int mx, .int ml, h0_4, h0_5, h0_6, h0_7, h0_8, h0_9, h0_10, h0_11, h0_12, h0_13, h0_14, h0_15, h0_16, h0_17, h0_18, h0_19, h0_20, h0_21, h0_22, h0_23, h0_24, h0_25, h0_26, h0_27, h0_28, h0_29, h0_30, h0_31, h0_32, h0_33, h0_34, h0_35, h0_36, h0_37, h0_38, h0_39, h0_40, h0_41, h0_42, h0_43, h0_44, h0_45, h0_46, h0_47, h0_48, h0_49, h0_50, h0_51, h0_52, h0_53, h0_54, h0_55, h0_56, h0_57, h0_58, h0_59, h0_60, h0_61, h0_62, h0_63, h0_64, h0_65, h0_66, h0_67, h0_68, h0_69]))] sz) := by
  refine Met.ofW (cc := cX12_layer) (maxL := 1) (ret := (some .int)) (by decide) rfl ?_
  intro p e s m args below meth c s₁ B hml hv
  obtain ⟨rfl, hsz, hP, hK, hD0⟩ := hv
  have hx := B.exec
  have hb := B.bytes
  have hr := B.returns
  have hts := atoms_spec (ws := u_s_X12_layerA) B.pre
  have hown : s.vm.findClass RX12 = some m.cls := findClass_of_methodNamed B.named
  have hlocks := B.notSynchronized
  subst hsz
  have hD := hD0.self (sz := s.heap.size)
  generalize hAe : va_A [(h0, .inr (12, [h0_0, h0_1, .int mx, .int ml, h0_4, h0_5, h0_6, h0_7, h0_8, h0_9, h0_10, h0_11, h0_12, h0_13, h0_14, h0_15, h0_16, h0_17, h0_18, h0_19, h0_20, h0_21, h0_22, h0_23, h0_24, h0_25, h0_26, h0_27, h0_28, h0_29, h0_30, h0_31, h0_32, h0_33, h0_34, h0_35, h0_36, h0_37, h0_38, h0_39, h0_40, h0_41, h0_42, h0_43, h0_44, h0_45, h0_46, h0_47, h0_48, h0_49, h0_50, h0_51, h0_52, h0_53, h0_54, h0_55, h0_56, h0_57, h0_58, h0_59, h0_60, h0_61, h0_62, h0_63, h0_64, h0_65, h0_66, h0_67, h0_68, h0_69]))] s.heap.size = A at hD ⊢
  have hA : ∀ q : Nat, s.heap.size ≤ q → A q := fun q h => by rw [← hAe]; exact Or.inr h
  have hS : va_S A s.heap s.heap [] := va_S.rf
  have hP : va_P (dC, dI) vwCl [(h0, .inr (12, [h0_0, h0_1, .int mx, .int ml, h0_4, h0_5, h0_6, h0_7, h0_8, h0_9, h0_10, h0_11, h0_12, h0_13, h0_14, h0_15, h0_16, h0_17, h0_18, h0_19, h0_20, h0_21, h0_22, h0_23, h0_24, h0_25, h0_26, h0_27, h0_28, h0_29, h0_30, h0_31, h0_32, h0_33, h0_34, h0_35, h0_36, h0_37, h0_38, h0_39, h0_40, h0_41, h0_42, h0_43, h0_44, h0_45, h0_46, h0_47, h0_48, h0_49, h0_50, h0_51, h0_52, h0_53, h0_54, h0_55, h0_56, h0_57, h0_58, h0_59, h0_60, h0_61, h0_62, h0_63, h0_64, h0_65, h0_66, h0_67, h0_68, h0_69]))] s.heap := hP
  have w__fieldLink_RX12_145_ShellHeapModel_thrown_I_ := hts (.fieldLink RX12 145 "ShellHeapModel" "thrown" "I") (z_mc (z_ml z_m0))
  have hiX12 := show ∀ w ∈ u_ws RX12 TX12 70, w ∈ u_s_X12_layerA from fun w h => z_mc (z_mr (z_ml h))
  have w__fieldLink_RX12_151_ShellHeapModel_layers_I_ := hts (.fieldLink RX12 151 "ShellHeapModel" "layers" "I") (z_mc (z_ml z_m1))
  have hl := lv_entry ([.ref h0]) (n := 1) (Nat.le_of_ble_eq_true rfl)
  rw [lg_entry_eq]
  generalize (lg_sl ([.ref h0]) ++ List.replicate (1 - (lg_sl ([.ref h0])).length) Slot.unset).toArray = ls at hl ⊢
  have hl : lv_has ls 1 [(0, .ref h0)] := hl
  refine lv_aload_n hx hb dX12_layer_0 rfl (lv_at hl 0 rfl) ?_
  refine lv_iconst (v := 0) hx hb dX12_layer_1 (by decide) ?_
  refine va_put (D := (dC, dI)) (ci := 12) (v := .int 0) (ty := .int) (C := RX12) (T := TX12) (N := 70) hx hb hts hiX12 tyX12 tyX12_ok nmX12 hown hK hP hD hS 0 rfl rfl 2 (by decide) w__fieldLink_RX12_145_ShellHeapModel_thrown_I_ (fun _ h9 => h9) rfl (by decide +kernel) rfl rfl (Nat.le_of_ble_eq_true rfl) dX12_layer_2 (fun H_1 locs hP hD hS => ?_)
  obtain ⟨hP, hD⟩ := z_s_0_2 hP hD
  refine lv_aload_n hx hb dX12_layer_5 rfl (lv_at hl 0 rfl) ?_
  refine va_get (D := (dC, dI)) (ci := 12) (v := .int ml) (C := RX12) (T := TX12) (N := 70) hx hb hts hiX12 hown hK hP 0 rfl rfl 3 (by decide) w__fieldLink_RX12_151_ShellHeapModel_layers_I_ (fun _ h9 => h9) rfl dX12_layer_6 ?_
  refine lv_bipush (v := 12) hx hb dX12_layer_9 (by decide) ?_
  refine lv_icmp_ne (tgt := 16) hx hb dX12_layer_11 (by decide) (fun c_2 => ?_) (fun c_2 => ?_)
  · have k_3 : (ml).toInt ≠ (12 : Int) := z_ne c_2
    refine lv_aload_n hx hb dX12_layer_16 rfl (lv_at hl 0 rfl) ?_
    refine lv_dup hx hb dX12_layer_17 rfl ?_
    refine va_get (D := (dC, dI)) (ci := 12) (v := .int ml) (C := RX12) (T := TX12) (N := 70) hx hb hts hiX12 hown hK hP 0 rfl rfl 3 (by decide) w__fieldLink_RX12_151_ShellHeapModel_layers_I_ (fun _ h9 => h9) rfl dX12_layer_18 ?_
    refine lv_iconst (v := 1) hx hb dX12_layer_21 (by decide) ?_
    refine lv_iadd hx hb dX12_layer_22 ?_
    refine lv_topi (fun z_4 ez_4 => ?_)
    have kz_4 : (z_4).toInt = (ml).toInt + (1 : Int) := by rw [ez_4]; exact z_add (a := (ml).toInt) (b := (1 : Int)) rfl rfl (z_al hB_ml.1 (by decide)) (z_ah hB_ml.2 (by decide))
    refine va_put (D := (dC, dI)) (ci := 12) (v := .int z_4) (ty := .int) (C := RX12) (T := TX12) (N := 70) hx hb hts hiX12 tyX12 tyX12_ok nmX12 hown hK hP hD hS 0 rfl rfl 3 (by decide) w__fieldLink_RX12_151_ShellHeapModel_layers_I_ (fun _ h9 => h9) rfl (by decide +kernel) rfl rfl (Nat.le_of_ble_eq_true rfl) dX12_layer_23 (fun H_5 locs hP hD hS => ?_)
    obtain ⟨hP, hD⟩ := z_s_0_3 hP hD
    refine lv_aload_n hx hb dX12_layer_26 rfl (lv_at hl 0 rfl) ?_
    refine va_get (D := (dC, dI)) (ci := 12) (v := .int z_4) (C := RX12) (T := TX12) (N := 70) hx hb hts hiX12 hown hK hP 0 rfl rfl 3 (by decide) w__fieldLink_RX12_151_ShellHeapModel_layers_I_ (fun _ h9 => h9) rfl dX12_layer_27 ?_
    refine lv_iconst (v := 1) hx hb dX12_layer_30 (by decide) ?_
    refine lv_isub hx hb dX12_layer_31 ?_
    refine lv_topi (fun z_6 ez_6 => ?_)
    have kz_6 : (z_6).toInt = (z_4).toInt - (1 : Int) := by rw [ez_6]; exact z_sub (a := (z_4).toInt) (b := (1 : Int)) rfl rfl (by omega) (by omega)
    have hP9 := hP
    have hD9 := hD
    have hK9 := hK.sub (tys' := []) [] rfl
    refine W.widen (k := 0) (n := 0) (Nat.le_of_ble_eq_true rfl) (Nat.le_of_ble_eq_true rfl) ?_
    exact W.iret (v := z_6) hx hb hr (fun t ht hW => ⟨⟨z_6, (), rfl, (show z_6 = v_layA ml by unfold v_layA; rw [if_pos (by omega)]; first | exact ez_6 | exact z_ii (by omega)), ⟨0, z_4, (by first | omega | decide), (show z_4 = v_layN ml by unfold v_layN; rw [if_pos (by omega)]; exact ez_4), by rw [ht]; exact hP9, va_K.moved hW.alike hK9, hD9⟩⟩, hS.F ht⟩) hS.2.2 dX12_layer_32
  · have k_7 : (ml).toInt = (12 : Int) := z_eq c_2
    refine lv_iconst (v := (-1)) hx hb dX12_layer_14 (by decide) ?_
    have hP9 := hP
    have hD9 := hD
    have hK9 := hK.sub (tys' := []) [] rfl
    refine W.widen (k := 0) (n := 0) (Nat.le_of_ble_eq_true rfl) (Nat.le_of_ble_eq_true rfl) ?_
    exact W.iret (v := (-1)) hx hb hr (fun t ht hW => ⟨⟨(-1), (), rfl, (show (-1) = v_layA ml by unfold v_layA; rw [if_neg (by omega)]), ⟨0, ml, hB_ml, (show ml = v_layN ml by unfold v_layN; rw [if_neg (by omega)]), by rw [ht]; exact hP9, va_K.moved hW.alike hK9, hD9⟩⟩, hS.F ht⟩) hS.2.2 dX12_layer_15
def u_s_X5_nameA : List Cond := .code yX5_name cX5_name 4 (some .int) :: ([.fieldLink RX5 41 "ShellHeap$Pantry" "kinds" "I", .fieldLink RX5 11 "ShellHeap$Pantry" "meats" "[I", .fieldLink RX5 15 "ShellHeap$Pantry" "valvesOf" "[I", .fieldLink RX5 25 "ShellHeap$Pantry" "keeps" "[I"] ++ (wsX50 ++ []))
theorem gd_s_X5_nameA : z_gd u_s_X5_nameA := z_gdc (by decide +kernel) (z_gda gdX5 (z_gd0))
set_option maxHeartbeats 4000000 in
set_option maxRecDepth 100000 in
theorem s_X5_nameA (l : Launch) (dC : Nat → ClassId) (dI : Nat → Nat → Nat) (sz : Nat) (h0 : Nat) (p1 : Int32) (p2 : Int32) (h1 : Nat) (h2 : Nat) (h0_2 : Value) (h0_3 : Value) (h3 : Nat) (h0_5 : Value) (h0_6 : Value) (h0_7 : Value) (h0_8 : Value) (pk : Int32) (ch1 : ClassId) (fh1 : Nat → Int32) (ch2 : ClassId) (fh2 : Nat → Int32) (ch3 : ClassId) (fh3 : Nat → Int32) (hB_pk : ((0 : Int) ≤ (pk).toInt ∧ (pk).toInt ≤ (6 : Int))) : Met l yX5_name u_s_X5_nameA ({ frames := 0, cells := 0, slots := 0, locals := 0 }) (va_Pc [.ref h0, .int p1, .int p2] (z_C (dC, dI) vwCl [(h0, .inr (5, [.ref h1, .ref h2, h0_2, h0_3, .ref h3, h0_5, h0_6, h0_7, h0_8, .int pk])), (h1, .inl (ch1, 6, .inl fh1)), (h2, .inl (ch2, 6, .inl fh2)), (h3, .inl (ch3, 24, .inl fh3))] [(ch1, .int), (ch2, .int), (ch3, .int)] sz)) (va_Qi (fun (r : Int32) (_ : Unit) => r = v_kiA pk p1 p2) (fun (_ : Unit) (t : State) => ∃ (n_h0_kinds : Int32), ∃ (g_h1 : Nat → Int32), ∃ (g_h2 : Nat → Int32), ∃ (g_h3 : Nat → Int32), ((0 : Int) ≤ (n_h0_kinds).toInt ∧ (n_h0_kinds).toInt ≤ (6 : Int)) ∧ (n_h0_kinds = v_kiN pk p1 p2) ∧ va_P (dC, dI) vwCl [(h0, .inr (5, [.ref h1, .ref h2, h0_2, h0_3, .ref h3, h0_5, h0_6, h0_7, h0_8, .int n_h0_kinds])), (h1, .inl (ch1, 6, .inl g_h1)), (h2, .inl (ch2, 6, .inl g_h2)), (h3, .inl (ch3, 24, .inl g_h3))] t.heap ∧ va_K (dC, dI) vwCl [] t ∧ va_D (va_A [(h0, .inr (5, [.ref h1, .ref h2, h0_2, h0_3, .ref h3, h0_5, h0_6, h0_7, h0_8, .int pk])), (h1, .inl (ch1, 6, .inl fh1)), (h2, .inl (ch2, 6, .inl fh2)), (h3, .inl (ch3, 24, .inl fh3))] sz) [(h0, .inr (5, [.ref h1, .ref h2, h0_2, h0_3, .ref h3, h0_5, h0_6, h0_7, h0_8, .int n_h0_kinds])), (h1, .inl (ch1, 6, .inl g_h1)), (h2, .inl (ch2, 6, .inl g_h2)), (h3, .inl (ch3, 24, .inl g_h3))]) (va_A [(h0, .inr (5, [.ref h1, .ref h2, h0_2, h0_3, .ref h3, h0_5, h0_6, h0_7, h0_8, .int pk])), (h1, .inl (ch1, 6, .inl fh1)), (h2, .inl (ch2, 6, .inl fh2)), (h3, .inl (ch3, 24, .inl fh3))] sz)) 0 0 (va_A [(h0, .inr (5, [.ref h1, .ref h2, h0_2, h0_3, .ref h3, h0_5, h0_6, h0_7, h0_8, .int pk])), (h1, .inl (ch1, 6, .inl fh1)), (h2, .inl (ch2, 6, .inl fh2)), (h3, .inl (ch3, 24, .inl fh3))] sz) := by
  refine Met.ofW (cc := cX5_name) (maxL := 4) (ret := (some .int)) (by decide) rfl ?_
  intro p e s m args below meth c s₁ B hml hv
  obtain ⟨rfl, hsz, hP, hK, hD0⟩ := hv
  have hx := B.exec
  have hb := B.bytes
  have hr := B.returns
  have hts := atoms_spec (ws := u_s_X5_nameA) B.pre
  have hown : s.vm.findClass RX5 = some m.cls := findClass_of_methodNamed B.named
  have hlocks := B.notSynchronized
  subst hsz
  have hD := hD0.self (sz := s.heap.size)
  generalize hAe : va_A [(h0, .inr (5, [.ref h1, .ref h2, h0_2, h0_3, .ref h3, h0_5, h0_6, h0_7, h0_8, .int pk])), (h1, .inl (ch1, 6, .inl fh1)), (h2, .inl (ch2, 6, .inl fh2)), (h3, .inl (ch3, 24, .inl fh3))] s.heap.size = A at hD ⊢
  have hA : ∀ q : Nat, s.heap.size ≤ q → A q := fun q h => by rw [← hAe]; exact Or.inr h
  have hS : va_S A s.heap s.heap [] := va_S.rf
  have hP : va_P (dC, dI) vwCl [(h0, .inr (5, [.ref h1, .ref h2, h0_2, h0_3, .ref h3, h0_5, h0_6, h0_7, h0_8, .int pk])), (h1, .inl (ch1, 6, .inl fh1)), (h2, .inl (ch2, 6, .inl fh2)), (h3, .inl (ch3, 24, .inl fh3))] s.heap := hP
  have w__fieldLink_RX5_41_ShellHeap_Pantry_kinds_I_ := hts (.fieldLink RX5 41 "ShellHeap$Pantry" "kinds" "I") (z_mc (z_ml z_m0))
  have hiX5 := show ∀ w ∈ u_ws RX5 TX5 10, w ∈ u_s_X5_nameA from fun w h => z_mc (z_mr (z_ml h))
  have w__fieldLink_RX5_11_ShellHeap_Pantry_meats_I_ := hts (.fieldLink RX5 11 "ShellHeap$Pantry" "meats" "[I") (z_mc (z_ml z_m1))
  have w__fieldLink_RX5_15_ShellHeap_Pantry_valvesOf_I_ := hts (.fieldLink RX5 15 "ShellHeap$Pantry" "valvesOf" "[I") (z_mc (z_ml z_m2))
  have w__fieldLink_RX5_25_ShellHeap_Pantry_keeps_I_ := hts (.fieldLink RX5 25 "ShellHeap$Pantry" "keeps" "[I") (z_mc (z_ml z_m3))
  have krr_p1 := z_rng p1
  have krr_p2 := z_rng p2
  have hl := lv_entry ([.ref h0, .int p1, .int p2]) (n := 4) (Nat.le_of_ble_eq_true rfl)
  rw [lg_entry_eq]
  generalize (lg_sl ([.ref h0, .int p1, .int p2]) ++ List.replicate (4 - (lg_sl ([.ref h0, .int p1, .int p2])).length) Slot.unset).toArray = ls at hl ⊢
  have hl : lv_has ls 4 [(0, .ref h0), (1, .int p1), (2, .int p2)] := hl
  refine z_nameQ (fun QQ hQQ => ?_)
  refine lv_iload_n hx hb dX5_name_0 rfl (lv_at hl 1 rfl) ?_
  refine lv_if_lt (tgt := 30) hx hb dX5_name_1 (by decide) (fun c_1 => ?_) (fun c_1 => ?_)
  · have k_2 : (p1).toInt < (0 : Int) := z_lt c_1
    refine lv_iconst (v := (-1)) hx hb dX5_name_30 (by decide) ?_
    refine z_backQ hQQ ?_
    have hP9 := hP
    have hD9 := hD
    have hK9 := hK.sub (tys' := []) [] rfl
    refine W.widen (k := 0) (n := 0) (Nat.le_of_ble_eq_true rfl) (Nat.le_of_ble_eq_true rfl) ?_
    exact W.iret (v := (-1)) hx hb hr (fun t ht hW => ⟨⟨(-1), (), rfl, (show (-1) = v_kiA pk p1 p2 by unfold v_kiA; rw [if_neg (by omega)]), ⟨pk, fh1, fh2, fh3, hB_pk, (show pk = v_kiN pk p1 p2 by unfold v_kiN; rw [if_neg (by omega)]), by rw [ht]; exact hP9, va_K.moved hW.alike hK9, hD9⟩⟩, hS.F ht⟩) hS.2.2 dX5_name_31
  · have k_3 : (p1).toInt ≥ (0 : Int) := z_nlt c_1
    refine lv_iload_n hx hb dX5_name_4 rfl (lv_at hl 1 rfl) ?_
    refine lv_sipush (v := 999) hx hb dX5_name_5 (by decide) ?_
    refine lv_icmp_gt (tgt := 30) hx hb dX5_name_8 (by decide) (fun c_4 => ?_) (fun c_4 => ?_)
    · have k_5 : (999 : Int) < (p1).toInt := z_lt c_4
      refine lv_iconst (v := (-1)) hx hb dX5_name_30 (by decide) ?_
      refine z_backQ hQQ ?_
      have hP9 := hP
      have hD9 := hD
      have hK9 := hK.sub (tys' := []) [] rfl
      refine W.widen (k := 0) (n := 0) (Nat.le_of_ble_eq_true rfl) (Nat.le_of_ble_eq_true rfl) ?_
      exact W.iret (v := (-1)) hx hb hr (fun t ht hW => ⟨⟨(-1), (), rfl, (show (-1) = v_kiA pk p1 p2 by unfold v_kiA; rw [if_neg (by omega)]), ⟨pk, fh1, fh2, fh3, hB_pk, (show pk = v_kiN pk p1 p2 by unfold v_kiN; rw [if_neg (by omega)]), by rw [ht]; exact hP9, va_K.moved hW.alike hK9, hD9⟩⟩, hS.F ht⟩) hS.2.2 dX5_name_31
    · have k_6 : (999 : Int) ≥ (p1).toInt := z_nlt c_4
      refine lv_iload_n hx hb dX5_name_11 rfl (lv_at hl 2 rfl) ?_
      refine lv_iconst (v := 1) hx hb dX5_name_12 (by decide) ?_
      refine lv_icmp_lt (tgt := 30) hx hb dX5_name_13 (by decide) (fun c_7 => ?_) (fun c_7 => ?_)
      · have k_8 : (p2).toInt < (1 : Int) := z_lt c_7
        refine lv_iconst (v := (-1)) hx hb dX5_name_30 (by decide) ?_
        refine z_backQ hQQ ?_
        have hP9 := hP
        have hD9 := hD
        have hK9 := hK.sub (tys' := []) [] rfl
        refine W.widen (k := 0) (n := 0) (Nat.le_of_ble_eq_true rfl) (Nat.le_of_ble_eq_true rfl) ?_
        exact W.iret (v := (-1)) hx hb hr (fun t ht hW => ⟨⟨(-1), (), rfl, (show (-1) = v_kiA pk p1 p2 by unfold v_kiA; rw [if_neg (by omega)]), ⟨pk, fh1, fh2, fh3, hB_pk, (show pk = v_kiN pk p1 p2 by unfold v_kiN; rw [if_neg (by omega)]), by rw [ht]; exact hP9, va_K.moved hW.alike hK9, hD9⟩⟩, hS.F ht⟩) hS.2.2 dX5_name_31
      · have k_9 : (p2).toInt ≥ (1 : Int) := z_nlt c_7
        refine lv_iload_n hx hb dX5_name_16 rfl (lv_at hl 2 rfl) ?_
        refine lv_iconst (v := 2) hx hb dX5_name_17 (by decide) ?_
        refine lv_icmp_gt (tgt := 30) hx hb dX5_name_18 (by decide) (fun c_10 => ?_) (fun c_10 => ?_)
        · have k_11 : (2 : Int) < (p2).toInt := z_lt c_10
          refine lv_iconst (v := (-1)) hx hb dX5_name_30 (by decide) ?_
          refine z_backQ hQQ ?_
          have hP9 := hP
          have hD9 := hD
          have hK9 := hK.sub (tys' := []) [] rfl
          refine W.widen (k := 0) (n := 0) (Nat.le_of_ble_eq_true rfl) (Nat.le_of_ble_eq_true rfl) ?_
          exact W.iret (v := (-1)) hx hb hr (fun t ht hW => ⟨⟨(-1), (), rfl, (show (-1) = v_kiA pk p1 p2 by unfold v_kiA; rw [if_neg (by omega)]), ⟨pk, fh1, fh2, fh3, hB_pk, (show pk = v_kiN pk p1 p2 by unfold v_kiN; rw [if_neg (by omega)]), by rw [ht]; exact hP9, va_K.moved hW.alike hK9, hD9⟩⟩, hS.F ht⟩) hS.2.2 dX5_name_31
        · have k_12 : (2 : Int) ≥ (p2).toInt := z_nlt c_10
          refine lv_aload_n hx hb dX5_name_21 rfl (lv_at hl 0 rfl) ?_
          refine va_get (D := (dC, dI)) (ci := 5) (v := .int pk) (C := RX5) (T := TX5) (N := 10) hx hb hts hiX5 hown hK hP 0 rfl rfl 9 (by decide) w__fieldLink_RX5_41_ShellHeap_Pantry_kinds_I_ (fun _ h9 => h9) rfl dX5_name_22 ?_
          refine lv_bipush (v := 6) hx hb dX5_name_25 (by decide) ?_
          refine lv_icmp_lt (tgt := 32) hx hb dX5_name_27 (by decide) (fun c_13 => ?_) (fun c_13 => ?_)
          · have k_14 : (pk).toInt < (6 : Int) := z_lt c_13
            refine lv_aload_n hx hb dX5_name_32 rfl (lv_at hl 0 rfl) ?_
            refine va_get (D := (dC, dI)) (ci := 5) (v := .ref h1) (C := RX5) (T := TX5) (N := 10) hx hb hts hiX5 hown hK hP 0 rfl rfl 0 (by decide) w__fieldLink_RX5_11_ShellHeap_Pantry_meats_I_ (fun _ h9 => h9) rfl dX5_name_33 ?_
            refine lv_aload_n hx hb dX5_name_36 rfl (lv_at hl 0 rfl) ?_
            refine va_get (D := (dC, dI)) (ci := 5) (v := .int pk) (C := RX5) (T := TX5) (N := 10) hx hb hts hiX5 hown hK hP 0 rfl rfl 9 (by decide) w__fieldLink_RX5_41_ShellHeap_Pantry_kinds_I_ (fun _ h9 => h9) rfl dX5_name_37 ?_
            refine lv_iload_n hx hb dX5_name_40 rfl (lv_at hl 1 rfl) ?_
            refine va_iast hx hb hK hP hD hS 1 0 rfl rfl (z_vpin (by omega) (by omega)) dX5_name_41 (fun H_15 locs hP hD hS => ?_)
            obtain ⟨hP, hD⟩ := z_s_1 hP hD
            generalize (upd fh1 (pk : Int32).toNatClampNeg p1) = f_16 at hP hD
            refine lv_aload_n hx hb dX5_name_42 rfl (lv_at hl 0 rfl) ?_
            refine va_get (D := (dC, dI)) (ci := 5) (v := .ref h2) (C := RX5) (T := TX5) (N := 10) hx hb hts hiX5 hown hK hP 0 rfl rfl 1 (by decide) w__fieldLink_RX5_15_ShellHeap_Pantry_valvesOf_I_ (fun _ h9 => h9) rfl dX5_name_43 ?_
            refine lv_aload_n hx hb dX5_name_46 rfl (lv_at hl 0 rfl) ?_
            refine va_get (D := (dC, dI)) (ci := 5) (v := .int pk) (C := RX5) (T := TX5) (N := 10) hx hb hts hiX5 hown hK hP 0 rfl rfl 9 (by decide) w__fieldLink_RX5_41_ShellHeap_Pantry_kinds_I_ (fun _ h9 => h9) rfl dX5_name_47 ?_
            refine lv_iload_n hx hb dX5_name_50 rfl (lv_at hl 2 rfl) ?_
            refine va_iast hx hb hK hP hD hS 2 1 rfl rfl (z_vpin (by omega) (by omega)) dX5_name_51 (fun H_17 locs hP hD hS => ?_)
            obtain ⟨hP, hD⟩ := z_s_2 hP hD
            generalize (upd fh2 (pk : Int32).toNatClampNeg p2) = f_18 at hP hD
            refine lv_iconst (v := 0) hx hb dX5_name_52 (by decide) ?_
            refine lv_istore_n (lv' := [(3, .int 0), (0, .ref h0), (1, .int p1), (2, .int p2)]) hx hb dX5_name_53 rfl hl (by decide) rfl (fun ls hl => ?_)
            have loop_19 : ∀ (n_20 : Nat) (i_22 : Int32) (f_23 : Nat → Int32) (H : Heap) (locs : List Loc) (ls : Array Slot), (5 - (i_22).toInt).toNat < n_20 → (((0 : Int) ≤ (i_22).toInt ∧ (i_22).toInt ≤ (4 : Int))) → va_P (dC, dI) vwCl [(h0, .inr (5, [.ref h1, .ref h2, h0_2, h0_3, .ref h3, h0_5, h0_6, h0_7, h0_8, .int pk])), (h1, .inl (ch1, 6, .inl f_16)), (h2, .inl (ch2, 6, .inl f_18)), (h3, .inl (ch3, 24, .inl f_23))] H → va_D A [(h0, .inr (5, [.ref h1, .ref h2, h0_2, h0_3, .ref h3, h0_5, h0_6, h0_7, h0_8, .int pk])), (h1, .inl (ch1, 6, .inl f_16)), (h2, .inl (ch2, 6, .inl f_18)), (h3, .inl (ch3, 24, .inl f_23))] → va_S A s.heap H locs → lv_has ls 4 [(3, .int i_22), (0, .ref h0), (1, .int p1), (2, .int p2)] → W p l e ({ frames := 0, cells := 0, slots := 0, locals := 0 } : Room) s m ([.ref h0, .int p1, .int p2] : List Value).toArray below meth c H locs 0 0 QQ (F0 m 54 ls []) := by
              intro n_20
              induction n_20 with
              | zero => intro i_22 f_23 H locs ls hm; exact absurd hm (Nat.not_lt_zero _)
              | succ n_20 ih_21 =>
                intro i_22 f_23 H locs ls hm hF_24 hP hD hS hl
                refine lv_iload_n hx hb dX5_name_54 rfl (lv_at hl 0 rfl) ?_
                refine lv_iconst (v := 4) hx hb dX5_name_55 (by decide) ?_
                refine lv_icmp_ge (tgt := 80) hx hb dX5_name_56 (by decide) (fun c_25 => ?_) (fun c_25 => ?_)
                · have k_26 : (4 : Int) ≤ (i_22).toInt := z_le c_25
                  obtain rfl : i_22 = 4 := z_eq' (show (i_22).toInt = (4 : Int) by omega)
                  refine lv_aload_n hx hb dX5_name_80 rfl (lv_at hl 1 rfl) ?_
                  refine lv_dup hx hb dX5_name_81 rfl ?_
                  refine va_get (D := (dC, dI)) (ci := 5) (v := .int pk) (C := RX5) (T := TX5) (N := 10) hx hb hts hiX5 hown hK hP 0 rfl rfl 9 (by decide) w__fieldLink_RX5_41_ShellHeap_Pantry_kinds_I_ (fun _ h9 => h9) rfl dX5_name_82 ?_
                  refine lv_iconst (v := 1) hx hb dX5_name_85 (by decide) ?_
                  refine lv_iadd hx hb dX5_name_86 ?_
                  refine lv_topi (fun z_28 ez_28 => ?_)
                  have kz_28 : (z_28).toInt = (pk).toInt + (1 : Int) := by rw [ez_28]; exact z_add (a := (pk).toInt) (b := (1 : Int)) rfl rfl (z_al hB_pk.1 (by decide)) (z_ah hB_pk.2 (by decide))
                  refine va_put (D := (dC, dI)) (ci := 5) (v := .int z_28) (ty := .int) (C := RX5) (T := TX5) (N := 10) hx hb hts hiX5 tyX5 tyX5_ok nmX5 hown hK hP hD hS 0 rfl rfl 9 (by decide) w__fieldLink_RX5_41_ShellHeap_Pantry_kinds_I_ (fun _ h9 => h9) rfl (by decide +kernel) rfl rfl (Nat.le_of_ble_eq_true rfl) dX5_name_87 (fun H_29 locs hP hD hS => ?_)
                  obtain ⟨hP, hD⟩ := z_s_0_9 hP hD
                  refine lv_aload_n hx hb dX5_name_90 rfl (lv_at hl 1 rfl) ?_
                  refine va_get (D := (dC, dI)) (ci := 5) (v := .int z_28) (C := RX5) (T := TX5) (N := 10) hx hb hts hiX5 hown hK hP 0 rfl rfl 9 (by decide) w__fieldLink_RX5_41_ShellHeap_Pantry_kinds_I_ (fun _ h9 => h9) rfl dX5_name_91 ?_
                  refine lv_iconst (v := 1) hx hb dX5_name_94 (by decide) ?_
                  refine lv_isub hx hb dX5_name_95 ?_
                  refine lv_topi (fun z_30 ez_30 => ?_)
                  have kz_30 : (z_30).toInt = (z_28).toInt - (1 : Int) := by rw [ez_30]; exact z_sub (a := (z_28).toInt) (b := (1 : Int)) rfl rfl (by omega) (by omega)
                  refine z_backQ hQQ ?_
                  have hP9 := hP
                  have hD9 := hD
                  have hK9 := hK.sub (tys' := []) [] rfl
                  refine W.widen (k := 0) (n := 0) (Nat.le_of_ble_eq_true rfl) (Nat.le_of_ble_eq_true rfl) ?_
                  exact W.iret (v := z_30) hx hb hr (fun t ht hW => ⟨⟨z_30, (), rfl, (show z_30 = v_kiA pk p1 p2 by unfold v_kiA; rw [if_pos (by omega)]; first | exact ez_30 | exact z_ii (by omega)), ⟨z_28, f_16, f_18, f_23, (by first | omega | decide), (show z_28 = v_kiN pk p1 p2 by unfold v_kiN; rw [if_pos (by omega)]; exact ez_28), by rw [ht]; exact hP9, va_K.moved hW.alike hK9, hD9⟩⟩, hS.F ht⟩) hS.2.2 dX5_name_96
                · have k_31 : (4 : Int) > (i_22).toInt := z_nle c_25
                  refine lv_aload_n hx hb dX5_name_59 rfl (lv_at hl 1 rfl) ?_
                  refine va_get (D := (dC, dI)) (ci := 5) (v := .ref h3) (C := RX5) (T := TX5) (N := 10) hx hb hts hiX5 hown hK hP 0 rfl rfl 4 (by decide) w__fieldLink_RX5_25_ShellHeap_Pantry_keeps_I_ (fun _ h9 => h9) rfl dX5_name_60 ?_
                  refine lv_aload_n hx hb dX5_name_63 rfl (lv_at hl 1 rfl) ?_
                  refine va_get (D := (dC, dI)) (ci := 5) (v := .int pk) (C := RX5) (T := TX5) (N := 10) hx hb hts hiX5 hown hK hP 0 rfl rfl 9 (by decide) w__fieldLink_RX5_41_ShellHeap_Pantry_kinds_I_ (fun _ h9 => h9) rfl dX5_name_64 ?_
                  refine lv_iconst (v := 4) hx hb dX5_name_67 (by decide) ?_
                  refine lv_imul hx hb dX5_name_68 ?_
                  refine lv_topi (fun z_32 ez_32 => ?_)
                  have kz_32 : (z_32).toInt = (pk).toInt * (4 : Int) := by rw [ez_32]; exact z_mul (a := (pk).toInt) (b := (4 : Int)) rfl rfl (by omega) (by omega)
                  refine lv_iload_n hx hb dX5_name_69 rfl (lv_at hl 0 rfl) ?_
                  refine lv_iadd hx hb dX5_name_70 ?_
                  refine lv_topi (fun z_33 ez_33 => ?_)
                  have kz_33 : (z_33).toInt = (z_32).toInt + (i_22).toInt := by rw [ez_33]; exact z_add (a := (z_32).toInt) (b := (i_22).toInt) rfl rfl (by omega) (by omega)
                  refine lv_bipush (v := 16) hx hb dX5_name_71 (by decide) ?_
                  refine va_iast hx hb hK hP hD hS 3 2 rfl rfl (z_vpin (by omega) (by omega)) dX5_name_73 (fun H_34 locs hP hD hS => ?_)
                  obtain ⟨hP, hD⟩ := z_s_3 hP hD
                  generalize (upd f_23 (z_33 : Int32).toNatClampNeg 16) = f_35 at hP hD
                  obtain ⟨z_36, ez_36⟩ : ∃ y : Int32, y = i_22 + 1 := ⟨_, rfl⟩
                  have kz_36 : (z_36).toInt = (i_22).toInt + (1 : Int) := by rw [ez_36]; exact z_add (b := 1) rfl rfl (z_al hF_24.1 (by decide)) (z_ah hF_24.2 (by decide))
                  refine lv_iinc (v := z_36) (lv' := [(3, .int z_36), (0, .ref h0), (1, .int p1), (2, .int p2)]) hx hb dX5_name_74 hl (k := 0) rfl (by rw [ez_36]; rfl) (by decide) rfl (fun ls hl => ?_)
                  refine lv_goto (tgt := 54) hx hb dX5_name_77 (by decide) ?_
                  exact ih_21 z_36 f_35 _ _ _ (show (5 - (z_36).toInt).toNat < n_20 by omega) (show ((0 : Int) ≤ (z_36).toInt ∧ (z_36).toInt ≤ (4 : Int)) by omega) hP hD hS (lv_sub hl [0, 1, 2, 3] rfl)
            exact loop_19 _ 0 fh3 _ _ _ (Nat.lt_succ_self _) (show ((0 : Int) ≤ (0 : Int) ∧ (0 : Int) ≤ (4 : Int)) by omega) hP hD hS hl
          · have k_37 : (pk).toInt ≥ (6 : Int) := z_nlt c_13
            refine lv_iconst (v := (-1)) hx hb dX5_name_30 (by decide) ?_
            refine z_backQ hQQ ?_
            have hP9 := hP
            have hD9 := hD
            have hK9 := hK.sub (tys' := []) [] rfl
            refine W.widen (k := 0) (n := 0) (Nat.le_of_ble_eq_true rfl) (Nat.le_of_ble_eq_true rfl) ?_
            exact W.iret (v := (-1)) hx hb hr (fun t ht hW => ⟨⟨(-1), (), rfl, (show (-1) = v_kiA pk p1 p2 by unfold v_kiA; rw [if_neg (by omega)]), ⟨pk, fh1, fh2, fh3, hB_pk, (show pk = v_kiN pk p1 p2 by unfold v_kiN; rw [if_neg (by omega)]), by rw [ht]; exact hP9, va_K.moved hW.alike hK9, hD9⟩⟩, hS.F ht⟩) hS.2.2 dX5_name_31
def u_s_X11_kindA : List Cond := .code yX11_kind cX11_kind 3 (some .int) :: ([.fieldLink RX11 42 "ShellHeap" "pantry" "LShellHeap$Pantry;", .methodLink RX11 200 yX5_name, .instanceMethod yX5_name, .selects RX5 yX5_name yX5_name, .initialized RX5] ++ (wsX110 ++ (u_s_X5_nameA ++ [])))
set_option maxRecDepth 20000 in
theorem gw_s_X11_kindA_s_X5_nameA_200 : GoodIn u_s_X11_kindA (wsV RX11 200 RX5 yX5_name u_s_X5_nameA) := z_gV (z_gr _ [2, 3, 4, 5] rfl (by decide +kernel)) (fun w h => ⟨z_mc (z_mr (z_mr (z_ml h))), gd_s_X5_nameA w h⟩)
set_option maxHeartbeats 4000000 in
set_option maxRecDepth 100000 in
theorem s_X11_kindA (l : Launch) (dC : Nat → ClassId) (dI : Nat → Nat → Nat) (sz : Nat) (h0 : Nat) (p1 : Int32) (p2 : Int32) (h0_0 : Value) (h0_1 : Value) (h0_2 : Value) (h0_3 : Value) (hp9 : Nat) (h0_5 : Value) (h0_6 : Value) (h0_7 : Value) (h0_8 : Value) (h0_9 : Value) (h1 : Nat) (h2 : Nat) (hp9_2 : Value) (hp9_3 : Value) (h3 : Nat) (hp9_5 : Value) (hp9_6 : Value) (hp9_7 : Value) (hp9_8 : Value) (pk : Int32) (ch1 : ClassId) (fh1 : Nat → Int32) (ch2 : ClassId) (fh2 : Nat → Int32) (ch3 : ClassId) (fh3 : Nat → Int32) (hB_pk : ((0 : Int) ≤ (pk).toInt ∧ (pk).toInt ≤ (6 : Int))) : Met l yX11_kind u_s_X11_kindA ({ frames := 1, cells := 0, slots := 0, locals := 23 }) (va_Pc [.ref h0, .int p1, .int p2] (z_C (dC, dI) vwCl [(h0, .inr (11, [h0_0, h0_1, h0_2, h0_3, .ref hp9, h0_5, h0_6, h0_7, h0_8, h0_9])), (hp9, .inr (5, [.ref h1, .ref h2, hp9_2, hp9_3, .ref h3, hp9_5, hp9_6, hp9_7, hp9_8, .int pk])), (h1, .inl (ch1, 6, .inl fh1)), (h2, .inl (ch2, 6, .inl fh2)), (h3, .inl (ch3, 24, .inl fh3))] [(ch1, .int), (ch2, .int), (ch3, .int)] sz)) (va_Qi (fun (r : Int32) (_ : Unit) => r = v_kiA pk p1 p2) (fun (_ : Unit) (t : State) => ∃ (n_hp9_kinds : Int32), ∃ (g_h1 : Nat → Int32), ∃ (g_h2 : Nat → Int32), ∃ (g_h3 : Nat → Int32), ((0 : Int) ≤ (n_hp9_kinds).toInt ∧ (n_hp9_kinds).toInt ≤ (6 : Int)) ∧ (n_hp9_kinds = v_kiN pk p1 p2) ∧ va_P (dC, dI) vwCl [(h0, .inr (11, [h0_0, h0_1, h0_2, h0_3, .ref hp9, h0_5, h0_6, h0_7, h0_8, h0_9])), (hp9, .inr (5, [.ref h1, .ref h2, hp9_2, hp9_3, .ref h3, hp9_5, hp9_6, hp9_7, hp9_8, .int n_hp9_kinds])), (h1, .inl (ch1, 6, .inl g_h1)), (h2, .inl (ch2, 6, .inl g_h2)), (h3, .inl (ch3, 24, .inl g_h3))] t.heap ∧ va_K (dC, dI) vwCl [] t ∧ va_D (va_A [(h0, .inr (11, [h0_0, h0_1, h0_2, h0_3, .ref hp9, h0_5, h0_6, h0_7, h0_8, h0_9])), (hp9, .inr (5, [.ref h1, .ref h2, hp9_2, hp9_3, .ref h3, hp9_5, hp9_6, hp9_7, hp9_8, .int pk])), (h1, .inl (ch1, 6, .inl fh1)), (h2, .inl (ch2, 6, .inl fh2)), (h3, .inl (ch3, 24, .inl fh3))] sz) [(h0, .inr (11, [h0_0, h0_1, h0_2, h0_3, .ref hp9, h0_5, h0_6, h0_7, h0_8, h0_9])), (hp9, .inr (5, [.ref h1, .ref h2, hp9_2, hp9_3, .ref h3, hp9_5, hp9_6, hp9_7, hp9_8, .int n_hp9_kinds])), (h1, .inl (ch1, 6, .inl g_h1)), (h2, .inl (ch2, 6, .inl g_h2)), (h3, .inl (ch3, 24, .inl g_h3))]) (va_A [(h0, .inr (11, [h0_0, h0_1, h0_2, h0_3, .ref hp9, h0_5, h0_6, h0_7, h0_8, h0_9])), (hp9, .inr (5, [.ref h1, .ref h2, hp9_2, hp9_3, .ref h3, hp9_5, hp9_6, hp9_7, hp9_8, .int pk])), (h1, .inl (ch1, 6, .inl fh1)), (h2, .inl (ch2, 6, .inl fh2)), (h3, .inl (ch3, 24, .inl fh3))] sz)) 0 0 (va_A [(h0, .inr (11, [h0_0, h0_1, h0_2, h0_3, .ref hp9, h0_5, h0_6, h0_7, h0_8, h0_9])), (hp9, .inr (5, [.ref h1, .ref h2, hp9_2, hp9_3, .ref h3, hp9_5, hp9_6, hp9_7, hp9_8, .int pk])), (h1, .inl (ch1, 6, .inl fh1)), (h2, .inl (ch2, 6, .inl fh2)), (h3, .inl (ch3, 24, .inl fh3))] sz) := by
  refine Met.ofW (cc := cX11_kind) (maxL := 3) (ret := (some .int)) (by decide) rfl ?_
  intro p e s m args below meth c s₁ B hml hv
  obtain ⟨rfl, hsz, hP, hK, hD0⟩ := hv
  have hx := B.exec
  have hb := B.bytes
  have hr := B.returns
  have hts := atoms_spec (ws := u_s_X11_kindA) B.pre
  have hown : s.vm.findClass RX11 = some m.cls := findClass_of_methodNamed B.named
  have hlocks := B.notSynchronized
  subst hsz
  have hD := hD0.self (sz := s.heap.size)
  generalize hAe : va_A [(h0, .inr (11, [h0_0, h0_1, h0_2, h0_3, .ref hp9, h0_5, h0_6, h0_7, h0_8, h0_9])), (hp9, .inr (5, [.ref h1, .ref h2, hp9_2, hp9_3, .ref h3, hp9_5, hp9_6, hp9_7, hp9_8, .int pk])), (h1, .inl (ch1, 6, .inl fh1)), (h2, .inl (ch2, 6, .inl fh2)), (h3, .inl (ch3, 24, .inl fh3))] s.heap.size = A at hD ⊢
  have hA : ∀ q : Nat, s.heap.size ≤ q → A q := fun q h => by rw [← hAe]; exact Or.inr h
  have hS : va_S A s.heap s.heap [] := va_S.rf
  have hP : va_P (dC, dI) vwCl [(h0, .inr (11, [h0_0, h0_1, h0_2, h0_3, .ref hp9, h0_5, h0_6, h0_7, h0_8, h0_9])), (hp9, .inr (5, [.ref h1, .ref h2, hp9_2, hp9_3, .ref h3, hp9_5, hp9_6, hp9_7, hp9_8, .int pk])), (h1, .inl (ch1, 6, .inl fh1)), (h2, .inl (ch2, 6, .inl fh2)), (h3, .inl (ch3, 24, .inl fh3))] s.heap := hP
  have w__fieldLink_RX11_42_ShellHeap_pantry_LShellHeap_Pantry_ := hts (.fieldLink RX11 42 "ShellHeap" "pantry" "LShellHeap$Pantry;") (z_mc (z_ml z_m0))
  have hiX11 := show ∀ w ∈ u_ws RX11 TX11 10, w ∈ u_s_X11_kindA from fun w h => z_mc (z_mr (z_ml h))
  have krr_p1 := z_rng p1
  have krr_p2 := z_rng p2
  have hl := lv_entry ([.ref h0, .int p1, .int p2]) (n := 3) (Nat.le_of_ble_eq_true rfl)
  rw [lg_entry_eq]
  generalize (lg_sl ([.ref h0, .int p1, .int p2]) ++ List.replicate (3 - (lg_sl ([.ref h0, .int p1, .int p2])).length) Slot.unset).toArray = ls at hl ⊢
  have hl : lv_has ls 3 [(0, .ref h0), (1, .int p1), (2, .int p2)] := hl
  refine lv_aload_n hx hb dX11_kind_0 rfl (lv_at hl 0 rfl) ?_
  refine va_get (D := (dC, dI)) (ci := 11) (v := .ref hp9) (C := RX11) (T := TX11) (N := 10) hx hb hts hiX11 hown hK hP 0 rfl rfl 4 (by decide) w__fieldLink_RX11_42_ShellHeap_pantry_LShellHeap_Pantry_ (fun _ h9 => h9) rfl dX11_kind_1 ?_
  refine lv_iload_n hx hb dX11_kind_4 rfl (lv_at hl 1 rfl) ?_
  refine lv_iload_n hx hb dX11_kind_5 rfl (lv_at hl 2 rfl) ?_
  obtain ⟨hPc, hDc, hFc⟩ := z_sub3 (ws' := [(hp9, .inr (5, [.ref h1, .ref h2, hp9_2, hp9_3, .ref h3, hp9_5, hp9_6, hp9_7, hp9_8, .int pk])), (h1, .inl (ch1, 6, .inl fh1)), (h2, .inl (ch2, 6, .inl fh2)), (h3, .inl (ch3, 24, .inl fh3))]) hP hD hS hA [1, 2, 3, 4] (by decide) rfl
  have hKc := hK
  refine va_calli (va_runV (As := [.int p1, .int p2]) (rest := []) ⟨hx, hb, hml, hown, hts⟩ (s_X5_nameA l dC dI s.heap.size hp9 p1 p2 h1 h2 hp9_2 hp9_3 h3 hp9_5 hp9_6 hp9_7 hp9_8 pk ch1 fh1 ch2 fh2 ch3 fh3 hB_pk) (cwV 2 hts gw_s_X11_kindA_s_X5_nameA_200 rfl rfl rfl (by decide +kernel) ⟨Nat.le_of_ble_eq_true rfl, Nat.le_of_ble_eq_true rfl⟩) ⟨z_blind, va_recv hKc hPc (ci := 5) (q0 := 0) rfl rfl, z_pre hPc hKc hDc⟩ rfl rfl hl.1 rfl (lv_room (Nat.le_of_ble_eq_true rfl)) dX11_kind_6 ⟨Nat.le_of_ble_eq_true rfl, Nat.le_of_ble_eq_true rfl⟩) hS (fun q _ h => hFc q h) hFc (fun r_2 u t H_1 locs ht hvm hw_3 hB hz1 hk1 hS => ?_)
  obtain ⟨n_h0_kinds_4, g_h1_5, g_h2_6, g_h3_7, hp_8, hp_9, hP1, hK1, hD1⟩ := hB
  rw [ht] at hP1
  have hK1 := va_K.moved hvm.symm hK1
  obtain ⟨hP, hD⟩ := z_ap_1 (va_join (wr := [(h0, .inr (11, [h0_0, h0_1, h0_2, h0_3, .ref hp9, h0_5, h0_6, h0_7, h0_8, h0_9]))]) hP hD [1, 2, 3, 4] [0] rfl rfl (by decide) (by decide) hk1 hFc hP1 hD1)
  have hp_9 : n_h0_kinds_4 = v_kiN pk p1 p2 := hp_9
  clear hPc hDc hKc
  have hP9 := hP
  have hD9 := hD
  have hK9 := hK.sub (tys' := []) [] rfl
  refine W.widen (k := 0) (n := 0) (Nat.le_of_ble_eq_true rfl) (Nat.le_of_ble_eq_true rfl) ?_
  exact W.iret (v := r_2) hx hb hr (fun t ht hW => ⟨⟨r_2, (), rfl, (show r_2 = v_kiA pk p1 p2 from hw_3), ⟨n_h0_kinds_4, g_h1_5, g_h2_6, g_h3_7, hp_8, hp_9, by rw [ht]; exact hP9, va_K.moved hW.alike hK9, hD9⟩⟩, hS.F ht⟩) hS.2.2 dX11_kind_9
def u_s_X12_kindA : List Cond := .code yX12_kind cX12_kind 3 (some .int) :: ([.fieldLink RX12 145 "ShellHeapModel" "thrown" "I", .fieldLink RX12 192 "ShellHeapModel" "kinds" "I", .fieldLink RX12 63 "ShellHeapModel" "meat" "[I", .fieldLink RX12 66 "ShellHeapModel" "valves" "[I"] ++ (wsX120 ++ []))
set_option maxHeartbeats 4000000 in
set_option maxRecDepth 100000 in
theorem s_X12_kindA (l : Launch) (dC : Nat → ClassId) (dI : Nat → Nat → Nat) (sz : Nat) (h0 : Nat) (p1 : Int32) (p2 : Int32) (h0_0 : Value) (h0_1 : Value) (mx : Int32) (h0_3 : Value) (h0_4 : Value) (h0_5 : Value) (h0_6 : Value) (h0_7 : Value) (h0_8 : Value) (h0_9 : Value) (h0_10 : Value) (h0_11 : Value) (h0_12 : Value) (h0_13 : Value) (h0_14 : Value) (h0_15 : Value) (h0_16 : Value) (h0_17 : Value) (h0_18 : Value) (h0_19 : Value) (h0_20 : Value) (h0_21 : Value) (h0_22 : Value) (mk : Int32) (h1 : Nat) (h2 : Nat) (h0_26 : Value) (h0_27 : Value) (h0_28 : Value) (h0_29 : Value) (h0_30 : Value) (h0_31 : Value) (h0_32 : Value) (h0_33 : Value) (h0_34 : Value) (h0_35 : Value) (h0_36 : Value) (h0_37 : Value) (h0_38 : Value) (h0_39 : Value) (h0_40 : Value) (h0_41 : Value) (h0_42 : Value) (h0_43 : Value) (h0_44 : Value) (h0_45 : Value) (h0_46 : Value) (h0_47 : Value) (h0_48 : Value) (h0_49 : Value) (h0_50 : Value) (h0_51 : Value) (h0_52 : Value) (h0_53 : Value) (h0_54 : Value) (h0_55 : Value) (h0_56 : Value) (h0_57 : Value) (h0_58 : Value) (h0_59 : Value) (h0_60 : Value) (h0_61 : Value) (h0_62 : Value) (h0_63 : Value) (h0_64 : Value) (h0_65 : Value) (h0_66 : Value) (h0_67 : Value) (h0_68 : Value) (h0_69 : Value) (ch1 : ClassId) (fh1 : Nat → Int32) (ch2 : ClassId) (fh2 : Nat → Int32) (hB_mk : ((0 : Int) ≤ (mk).toInt ∧ (mk).toInt ≤ (6 : Int))) : Met l yX12_kind u_s_X12_kindA ({ frames := 0, cells := 0, slots := 0, locals := 0 }) (va_Pc [.ref h0, .int p1, .int p2] (z_C (dC, dI) vwCl [(h0, .inr (12, [h0_0, h0_1, .int mx, h0_3, h0_4, h0_5, h0_6, h0_7, h0_8, h0_9, h0_10, h0_11, h0_12, h0_13, h0_14, h0_15, h0_16, h0_17, h0_18, h0_19, h0_20, h0_21, h0_22, .int mk, .ref h1, .ref h2, h0_26, h0_27, h0_28, h0_29, h0_30, h0_31, h0_32, h0_33, h0_34, h0_35, h0_36, h0_37, h0_38, h0_39, h0_40, h0_41, h0_42, h0_43, h0_44, h0_45, h0_46, h0_47, h0_48, h0_49, h0_50, h0_51, h0_52, h0_53, h0_54, h0_55, h0_56, h0_57, h0_58, h0_59, h0_60, h0_61, h0_62, h0_63, h0_64, h0_65, h0_66, h0_67, h0_68, h0_69])), (h1, .inl (ch1, 6, .inl fh1)), (h2, .inl (ch2, 6, .inl fh2))] [(ch1, .int), (ch2, .int)] sz)) (va_Qi (fun (r : Int32) (_ : Unit) => r = v_kiA mk p1 p2) (fun (_ : Unit) (t : State) => ∃ (n_h0_thrown : Int32), ∃ (n_h0_kinds : Int32), ∃ (g_h1 : Nat → Int32), ∃ (g_h2 : Nat → Int32), ((0 : Int) ≤ (n_h0_kinds).toInt ∧ (n_h0_kinds).toInt ≤ (6 : Int)) ∧ (n_h0_kinds = v_kiN mk p1 p2) ∧ va_P (dC, dI) vwCl [(h0, .inr (12, [h0_0, h0_1, .int n_h0_thrown, h0_3, h0_4, h0_5, h0_6, h0_7, h0_8, h0_9, h0_10, h0_11, h0_12, h0_13, h0_14, h0_15, h0_16, h0_17, h0_18, h0_19, h0_20, h0_21, h0_22, .int n_h0_kinds, .ref h1, .ref h2, h0_26, h0_27, h0_28, h0_29, h0_30, h0_31, h0_32, h0_33, h0_34, h0_35, h0_36, h0_37, h0_38, h0_39, h0_40, h0_41, h0_42, h0_43, h0_44, h0_45, h0_46, h0_47, h0_48, h0_49, h0_50, h0_51, h0_52, h0_53, h0_54, h0_55, h0_56, h0_57, h0_58, h0_59, h0_60, h0_61, h0_62, h0_63, h0_64, h0_65, h0_66, h0_67, h0_68, h0_69])), (h1, .inl (ch1, 6, .inl g_h1)), (h2, .inl (ch2, 6, .inl g_h2))] t.heap ∧ va_K (dC, dI) vwCl [] t ∧ va_D (va_A [(h0, .inr (12, [h0_0, h0_1, .int mx, h0_3, h0_4, h0_5, h0_6, h0_7, h0_8, h0_9, h0_10, h0_11, h0_12, h0_13, h0_14, h0_15, h0_16, h0_17, h0_18, h0_19, h0_20, h0_21, h0_22, .int mk, .ref h1, .ref h2, h0_26, h0_27, h0_28, h0_29, h0_30, h0_31, h0_32, h0_33, h0_34, h0_35, h0_36, h0_37, h0_38, h0_39, h0_40, h0_41, h0_42, h0_43, h0_44, h0_45, h0_46, h0_47, h0_48, h0_49, h0_50, h0_51, h0_52, h0_53, h0_54, h0_55, h0_56, h0_57, h0_58, h0_59, h0_60, h0_61, h0_62, h0_63, h0_64, h0_65, h0_66, h0_67, h0_68, h0_69])), (h1, .inl (ch1, 6, .inl fh1)), (h2, .inl (ch2, 6, .inl fh2))] sz) [(h0, .inr (12, [h0_0, h0_1, .int n_h0_thrown, h0_3, h0_4, h0_5, h0_6, h0_7, h0_8, h0_9, h0_10, h0_11, h0_12, h0_13, h0_14, h0_15, h0_16, h0_17, h0_18, h0_19, h0_20, h0_21, h0_22, .int n_h0_kinds, .ref h1, .ref h2, h0_26, h0_27, h0_28, h0_29, h0_30, h0_31, h0_32, h0_33, h0_34, h0_35, h0_36, h0_37, h0_38, h0_39, h0_40, h0_41, h0_42, h0_43, h0_44, h0_45, h0_46, h0_47, h0_48, h0_49, h0_50, h0_51, h0_52, h0_53, h0_54, h0_55, h0_56, h0_57, h0_58, h0_59, h0_60, h0_61, h0_62, h0_63, h0_64, h0_65, h0_66, h0_67, h0_68, h0_69])), (h1, .inl (ch1, 6, .inl g_h1)), (h2, .inl (ch2, 6, .inl g_h2))]) (va_A [(h0, .inr (12, [h0_0, h0_1, .int mx, h0_3, h0_4, h0_5, h0_6, h0_7, h0_8, h0_9, h0_10, h0_11, h0_12, h0_13, h0_14, h0_15, h0_16, h0_17, h0_18, h0_19, h0_20, h0_21, h0_22, .int mk, .ref h1, .ref h2, h0_26, h0_27, h0_28, h0_29, h0_30, h0_31, h0_32, h0_33, h0_34, h0_35, h0_36, h0_37, h0_38, h0_39, h0_40, h0_41, h0_42, h0_43, h0_44, h0_45, h0_46, h0_47, h0_48, h0_49, h0_50, h0_51, h0_52, h0_53, h0_54, h0_55, h0_56, h0_57, h0_58, h0_59, h0_60, h0_61, h0_62, h0_63, h0_64, h0_65, h0_66, h0_67, h0_68, h0_69])), (h1, .inl (ch1, 6, .inl fh1)), (h2, .inl (ch2, 6, .inl fh2))] sz)) 0 0 (va_A [(h0, .inr (12, [h0_0, h0_1, .int mx, h0_3, h0_4, h0_5, h0_6, h0_7, h0_8, h0_9, h0_10, h0_11, h0_12, h0_13, h0_14, h0_15, h0_16, h0_17, h0_18, h0_19, h0_20, h0_21, h0_22, .int mk, .ref h1, .ref h2, h0_26, h0_27, h0_28, h0_29, h0_30, h0_31, h0_32, h0_33, h0_34, h0_35, h0_36, h0_37, h0_38, h0_39, h0_40, h0_41, h0_42, h0_43, h0_44, h0_45, h0_46, h0_47, h0_48, h0_49, h0_50, h0_51, h0_52, h0_53, h0_54, h0_55, h0_56, h0_57, h0_58, h0_59, h0_60, h0_61, h0_62, h0_63, h0_64, h0_65, h0_66, h0_67, h0_68, h0_69])), (h1, .inl (ch1, 6, .inl fh1)), (h2, .inl (ch2, 6, .inl fh2))] sz) := by
  refine Met.ofW (cc := cX12_kind) (maxL := 3) (ret := (some .int)) (by decide) rfl ?_
  intro p e s m args below meth c s₁ B hml hv
  obtain ⟨rfl, hsz, hP, hK, hD0⟩ := hv
  have hx := B.exec
  have hb := B.bytes
  have hr := B.returns
  have hts := atoms_spec (ws := u_s_X12_kindA) B.pre
  have hown : s.vm.findClass RX12 = some m.cls := findClass_of_methodNamed B.named
  have hlocks := B.notSynchronized
  subst hsz
  have hD := hD0.self (sz := s.heap.size)
  generalize hAe : va_A [(h0, .inr (12, [h0_0, h0_1, .int mx, h0_3, h0_4, h0_5, h0_6, h0_7, h0_8, h0_9, h0_10, h0_11, h0_12, h0_13, h0_14, h0_15, h0_16, h0_17, h0_18, h0_19, h0_20, h0_21, h0_22, .int mk, .ref h1, .ref h2, h0_26, h0_27, h0_28, h0_29, h0_30, h0_31, h0_32, h0_33, h0_34, h0_35, h0_36, h0_37, h0_38, h0_39, h0_40, h0_41, h0_42, h0_43, h0_44, h0_45, h0_46, h0_47, h0_48, h0_49, h0_50, h0_51, h0_52, h0_53, h0_54, h0_55, h0_56, h0_57, h0_58, h0_59, h0_60, h0_61, h0_62, h0_63, h0_64, h0_65, h0_66, h0_67, h0_68, h0_69])), (h1, .inl (ch1, 6, .inl fh1)), (h2, .inl (ch2, 6, .inl fh2))] s.heap.size = A at hD ⊢
  have hA : ∀ q : Nat, s.heap.size ≤ q → A q := fun q h => by rw [← hAe]; exact Or.inr h
  have hS : va_S A s.heap s.heap [] := va_S.rf
  have hP : va_P (dC, dI) vwCl [(h0, .inr (12, [h0_0, h0_1, .int mx, h0_3, h0_4, h0_5, h0_6, h0_7, h0_8, h0_9, h0_10, h0_11, h0_12, h0_13, h0_14, h0_15, h0_16, h0_17, h0_18, h0_19, h0_20, h0_21, h0_22, .int mk, .ref h1, .ref h2, h0_26, h0_27, h0_28, h0_29, h0_30, h0_31, h0_32, h0_33, h0_34, h0_35, h0_36, h0_37, h0_38, h0_39, h0_40, h0_41, h0_42, h0_43, h0_44, h0_45, h0_46, h0_47, h0_48, h0_49, h0_50, h0_51, h0_52, h0_53, h0_54, h0_55, h0_56, h0_57, h0_58, h0_59, h0_60, h0_61, h0_62, h0_63, h0_64, h0_65, h0_66, h0_67, h0_68, h0_69])), (h1, .inl (ch1, 6, .inl fh1)), (h2, .inl (ch2, 6, .inl fh2))] s.heap := hP
  have w__fieldLink_RX12_145_ShellHeapModel_thrown_I_ := hts (.fieldLink RX12 145 "ShellHeapModel" "thrown" "I") (z_mc (z_ml z_m0))
  have hiX12 := show ∀ w ∈ u_ws RX12 TX12 70, w ∈ u_s_X12_kindA from fun w h => z_mc (z_mr (z_ml h))
  have w__fieldLink_RX12_192_ShellHeapModel_kinds_I_ := hts (.fieldLink RX12 192 "ShellHeapModel" "kinds" "I") (z_mc (z_ml z_m1))
  have w__fieldLink_RX12_63_ShellHeapModel_meat_I_ := hts (.fieldLink RX12 63 "ShellHeapModel" "meat" "[I") (z_mc (z_ml z_m2))
  have w__fieldLink_RX12_66_ShellHeapModel_valves_I_ := hts (.fieldLink RX12 66 "ShellHeapModel" "valves" "[I") (z_mc (z_ml z_m3))
  have krr_p1 := z_rng p1
  have krr_p2 := z_rng p2
  have hl := lv_entry ([.ref h0, .int p1, .int p2]) (n := 3) (Nat.le_of_ble_eq_true rfl)
  rw [lg_entry_eq]
  generalize (lg_sl ([.ref h0, .int p1, .int p2]) ++ List.replicate (3 - (lg_sl ([.ref h0, .int p1, .int p2])).length) Slot.unset).toArray = ls at hl ⊢
  have hl : lv_has ls 3 [(0, .ref h0), (1, .int p1), (2, .int p2)] := hl
  refine lv_aload_n hx hb dX12_kind_0 rfl (lv_at hl 0 rfl) ?_
  refine lv_iconst (v := 0) hx hb dX12_kind_1 (by decide) ?_
  refine va_put (D := (dC, dI)) (ci := 12) (v := .int 0) (ty := .int) (C := RX12) (T := TX12) (N := 70) hx hb hts hiX12 tyX12 tyX12_ok nmX12 hown hK hP hD hS 0 rfl rfl 2 (by decide) w__fieldLink_RX12_145_ShellHeapModel_thrown_I_ (fun _ h9 => h9) rfl (by decide +kernel) rfl rfl (Nat.le_of_ble_eq_true rfl) dX12_kind_2 (fun H_1 locs hP hD hS => ?_)
  obtain ⟨hP, hD⟩ := z_s_0_2 hP hD
  refine lv_aload_n hx hb dX12_kind_5 rfl (lv_at hl 0 rfl) ?_
  refine va_get (D := (dC, dI)) (ci := 12) (v := .int mk) (C := RX12) (T := TX12) (N := 70) hx hb hts hiX12 hown hK hP 0 rfl rfl 23 (by decide) w__fieldLink_RX12_192_ShellHeapModel_kinds_I_ (fun _ h9 => h9) rfl dX12_kind_6 ?_
  refine lv_bipush (v := 6) hx hb dX12_kind_9 (by decide) ?_
  refine lv_icmp_eq (tgt := 35) hx hb dX12_kind_11 (by decide) (fun c_2 => ?_) (fun c_2 => ?_)
  · have k_3 : (mk).toInt = (6 : Int) := z_eq c_2
    refine lv_iconst (v := (-1)) hx hb dX12_kind_35 (by decide) ?_
    have hP9 := hP
    have hD9 := hD
    have hK9 := hK.sub (tys' := []) [] rfl
    refine W.widen (k := 0) (n := 0) (Nat.le_of_ble_eq_true rfl) (Nat.le_of_ble_eq_true rfl) ?_
    exact W.iret (v := (-1)) hx hb hr (fun t ht hW => ⟨⟨(-1), (), rfl, (show (-1) = v_kiA mk p1 p2 by unfold v_kiA; rw [if_neg (by omega)]), ⟨0, mk, fh1, fh2, hB_mk, (show mk = v_kiN mk p1 p2 by unfold v_kiN; rw [if_neg (by omega)]), by rw [ht]; exact hP9, va_K.moved hW.alike hK9, hD9⟩⟩, hS.F ht⟩) hS.2.2 dX12_kind_36
  · have k_4 : (mk).toInt ≠ (6 : Int) := z_ne c_2
    refine lv_iload_n hx hb dX12_kind_14 rfl (lv_at hl 1 rfl) ?_
    refine lv_if_lt (tgt := 35) hx hb dX12_kind_15 (by decide) (fun c_5 => ?_) (fun c_5 => ?_)
    · have k_6 : (p1).toInt < (0 : Int) := z_lt c_5
      refine lv_iconst (v := (-1)) hx hb dX12_kind_35 (by decide) ?_
      have hP9 := hP
      have hD9 := hD
      have hK9 := hK.sub (tys' := []) [] rfl
      refine W.widen (k := 0) (n := 0) (Nat.le_of_ble_eq_true rfl) (Nat.le_of_ble_eq_true rfl) ?_
      exact W.iret (v := (-1)) hx hb hr (fun t ht hW => ⟨⟨(-1), (), rfl, (show (-1) = v_kiA mk p1 p2 by unfold v_kiA; rw [if_neg (by omega)]), ⟨0, mk, fh1, fh2, hB_mk, (show mk = v_kiN mk p1 p2 by unfold v_kiN; rw [if_neg (by omega)]), by rw [ht]; exact hP9, va_K.moved hW.alike hK9, hD9⟩⟩, hS.F ht⟩) hS.2.2 dX12_kind_36
    · have k_7 : (p1).toInt ≥ (0 : Int) := z_nlt c_5
      refine lv_iload_n hx hb dX12_kind_18 rfl (lv_at hl 1 rfl) ?_
      refine lv_sipush (v := 999) hx hb dX12_kind_19 (by decide) ?_
      refine lv_icmp_gt (tgt := 35) hx hb dX12_kind_22 (by decide) (fun c_8 => ?_) (fun c_8 => ?_)
      · have k_9 : (999 : Int) < (p1).toInt := z_lt c_8
        refine lv_iconst (v := (-1)) hx hb dX12_kind_35 (by decide) ?_
        have hP9 := hP
        have hD9 := hD
        have hK9 := hK.sub (tys' := []) [] rfl
        refine W.widen (k := 0) (n := 0) (Nat.le_of_ble_eq_true rfl) (Nat.le_of_ble_eq_true rfl) ?_
        exact W.iret (v := (-1)) hx hb hr (fun t ht hW => ⟨⟨(-1), (), rfl, (show (-1) = v_kiA mk p1 p2 by unfold v_kiA; rw [if_neg (by omega)]), ⟨0, mk, fh1, fh2, hB_mk, (show mk = v_kiN mk p1 p2 by unfold v_kiN; rw [if_neg (by omega)]), by rw [ht]; exact hP9, va_K.moved hW.alike hK9, hD9⟩⟩, hS.F ht⟩) hS.2.2 dX12_kind_36
      · have k_10 : (999 : Int) ≥ (p1).toInt := z_nlt c_8
        refine lv_iload_n hx hb dX12_kind_25 rfl (lv_at hl 2 rfl) ?_
        refine lv_iconst (v := 1) hx hb dX12_kind_26 (by decide) ?_
        refine lv_icmp_lt (tgt := 35) hx hb dX12_kind_27 (by decide) (fun c_11 => ?_) (fun c_11 => ?_)
        · have k_12 : (p2).toInt < (1 : Int) := z_lt c_11
          refine lv_iconst (v := (-1)) hx hb dX12_kind_35 (by decide) ?_
          have hP9 := hP
          have hD9 := hD
          have hK9 := hK.sub (tys' := []) [] rfl
          refine W.widen (k := 0) (n := 0) (Nat.le_of_ble_eq_true rfl) (Nat.le_of_ble_eq_true rfl) ?_
          exact W.iret (v := (-1)) hx hb hr (fun t ht hW => ⟨⟨(-1), (), rfl, (show (-1) = v_kiA mk p1 p2 by unfold v_kiA; rw [if_neg (by omega)]), ⟨0, mk, fh1, fh2, hB_mk, (show mk = v_kiN mk p1 p2 by unfold v_kiN; rw [if_neg (by omega)]), by rw [ht]; exact hP9, va_K.moved hW.alike hK9, hD9⟩⟩, hS.F ht⟩) hS.2.2 dX12_kind_36
        · have k_13 : (p2).toInt ≥ (1 : Int) := z_nlt c_11
          refine lv_iload_n hx hb dX12_kind_30 rfl (lv_at hl 2 rfl) ?_
          refine lv_iconst (v := 2) hx hb dX12_kind_31 (by decide) ?_
          refine lv_icmp_le (tgt := 37) hx hb dX12_kind_32 (by decide) (fun c_14 => ?_) (fun c_14 => ?_)
          · have k_15 : (p2).toInt ≤ (2 : Int) := z_le c_14
            refine lv_aload_n hx hb dX12_kind_37 rfl (lv_at hl 0 rfl) ?_
            refine va_get (D := (dC, dI)) (ci := 12) (v := .ref h1) (C := RX12) (T := TX12) (N := 70) hx hb hts hiX12 hown hK hP 0 rfl rfl 24 (by decide) w__fieldLink_RX12_63_ShellHeapModel_meat_I_ (fun _ h9 => h9) rfl dX12_kind_38 ?_
            refine lv_aload_n hx hb dX12_kind_41 rfl (lv_at hl 0 rfl) ?_
            refine va_get (D := (dC, dI)) (ci := 12) (v := .int mk) (C := RX12) (T := TX12) (N := 70) hx hb hts hiX12 hown hK hP 0 rfl rfl 23 (by decide) w__fieldLink_RX12_192_ShellHeapModel_kinds_I_ (fun _ h9 => h9) rfl dX12_kind_42 ?_
            refine lv_iload_n hx hb dX12_kind_45 rfl (lv_at hl 1 rfl) ?_
            refine va_iast hx hb hK hP hD hS 1 0 rfl rfl (z_vpin (by omega) (by omega)) dX12_kind_46 (fun H_16 locs hP hD hS => ?_)
            obtain ⟨hP, hD⟩ := z_s_1 hP hD
            generalize (upd fh1 (mk : Int32).toNatClampNeg p1) = f_17 at hP hD
            refine lv_aload_n hx hb dX12_kind_47 rfl (lv_at hl 0 rfl) ?_
            refine va_get (D := (dC, dI)) (ci := 12) (v := .ref h2) (C := RX12) (T := TX12) (N := 70) hx hb hts hiX12 hown hK hP 0 rfl rfl 25 (by decide) w__fieldLink_RX12_66_ShellHeapModel_valves_I_ (fun _ h9 => h9) rfl dX12_kind_48 ?_
            refine lv_aload_n hx hb dX12_kind_51 rfl (lv_at hl 0 rfl) ?_
            refine va_get (D := (dC, dI)) (ci := 12) (v := .int mk) (C := RX12) (T := TX12) (N := 70) hx hb hts hiX12 hown hK hP 0 rfl rfl 23 (by decide) w__fieldLink_RX12_192_ShellHeapModel_kinds_I_ (fun _ h9 => h9) rfl dX12_kind_52 ?_
            refine lv_iload_n hx hb dX12_kind_55 rfl (lv_at hl 2 rfl) ?_
            refine va_iast hx hb hK hP hD hS 2 1 rfl rfl (z_vpin (by omega) (by omega)) dX12_kind_56 (fun H_18 locs hP hD hS => ?_)
            obtain ⟨hP, hD⟩ := z_s_2 hP hD
            generalize (upd fh2 (mk : Int32).toNatClampNeg p2) = f_19 at hP hD
            refine lv_aload_n hx hb dX12_kind_57 rfl (lv_at hl 0 rfl) ?_
            refine lv_dup hx hb dX12_kind_58 rfl ?_
            refine va_get (D := (dC, dI)) (ci := 12) (v := .int mk) (C := RX12) (T := TX12) (N := 70) hx hb hts hiX12 hown hK hP 0 rfl rfl 23 (by decide) w__fieldLink_RX12_192_ShellHeapModel_kinds_I_ (fun _ h9 => h9) rfl dX12_kind_59 ?_
            refine lv_iconst (v := 1) hx hb dX12_kind_62 (by decide) ?_
            refine lv_iadd hx hb dX12_kind_63 ?_
            refine lv_topi (fun z_20 ez_20 => ?_)
            have kz_20 : (z_20).toInt = (mk).toInt + (1 : Int) := by rw [ez_20]; exact z_add (a := (mk).toInt) (b := (1 : Int)) rfl rfl (z_al hB_mk.1 (by decide)) (z_ah hB_mk.2 (by decide))
            refine va_put (D := (dC, dI)) (ci := 12) (v := .int z_20) (ty := .int) (C := RX12) (T := TX12) (N := 70) hx hb hts hiX12 tyX12 tyX12_ok nmX12 hown hK hP hD hS 0 rfl rfl 23 (by decide) w__fieldLink_RX12_192_ShellHeapModel_kinds_I_ (fun _ h9 => h9) rfl (by decide +kernel) rfl rfl (Nat.le_of_ble_eq_true rfl) dX12_kind_64 (fun H_21 locs hP hD hS => ?_)
            obtain ⟨hP, hD⟩ := z_s_0_23 hP hD
            refine lv_aload_n hx hb dX12_kind_67 rfl (lv_at hl 0 rfl) ?_
            refine va_get (D := (dC, dI)) (ci := 12) (v := .int z_20) (C := RX12) (T := TX12) (N := 70) hx hb hts hiX12 hown hK hP 0 rfl rfl 23 (by decide) w__fieldLink_RX12_192_ShellHeapModel_kinds_I_ (fun _ h9 => h9) rfl dX12_kind_68 ?_
            refine lv_iconst (v := 1) hx hb dX12_kind_71 (by decide) ?_
            refine lv_isub hx hb dX12_kind_72 ?_
            refine lv_topi (fun z_22 ez_22 => ?_)
            have kz_22 : (z_22).toInt = (z_20).toInt - (1 : Int) := by rw [ez_22]; exact z_sub (a := (z_20).toInt) (b := (1 : Int)) rfl rfl (by omega) (by omega)
            have hP9 := hP
            have hD9 := hD
            have hK9 := hK.sub (tys' := []) [] rfl
            refine W.widen (k := 0) (n := 0) (Nat.le_of_ble_eq_true rfl) (Nat.le_of_ble_eq_true rfl) ?_
            exact W.iret (v := z_22) hx hb hr (fun t ht hW => ⟨⟨z_22, (), rfl, (show z_22 = v_kiA mk p1 p2 by unfold v_kiA; rw [if_pos (by omega)]; first | exact ez_22 | exact z_ii (by omega)), ⟨0, z_20, f_17, f_19, (by first | omega | decide), (show z_20 = v_kiN mk p1 p2 by unfold v_kiN; rw [if_pos (by omega)]; exact ez_20), by rw [ht]; exact hP9, va_K.moved hW.alike hK9, hD9⟩⟩, hS.F ht⟩) hS.2.2 dX12_kind_73
          · have k_23 : (p2).toInt > (2 : Int) := z_nle c_14
            refine lv_iconst (v := (-1)) hx hb dX12_kind_35 (by decide) ?_
            have hP9 := hP
            have hD9 := hD
            have hK9 := hK.sub (tys' := []) [] rfl
            refine W.widen (k := 0) (n := 0) (Nat.le_of_ble_eq_true rfl) (Nat.le_of_ble_eq_true rfl) ?_
            exact W.iret (v := (-1)) hx hb hr (fun t ht hW => ⟨⟨(-1), (), rfl, (show (-1) = v_kiA mk p1 p2 by unfold v_kiA; rw [if_neg (by omega)]), ⟨0, mk, fh1, fh2, hB_mk, (show mk = v_kiN mk p1 p2 by unfold v_kiN; rw [if_neg (by omega)]), by rw [ht]; exact hP9, va_K.moved hW.alike hK9, hD9⟩⟩, hS.F ht⟩) hS.2.2 dX12_kind_36
