def u_s_X12_causeOf : List Cond := .code yX12_causeOf cX12_causeOf 9 (some .long) :: ([.constantLong RX12 396 (-9223372036854775808), .fieldLink RX12 108 "ShellHeapModel" "causeMany" "[I", .fieldLink RX12 126 "ShellHeapModel" "goesBy" "[I", .fieldLink RX12 105 "ShellHeapModel" "causeFirst" "[I", .fieldLink RX12 111 "ShellHeapModel" "knot" "[I", .fieldLink RX12 141 "ShellHeapModel" "worked" "[J", .fieldLink RX12 114 "ShellHeapModel" "left" "[I", .fieldLink RX12 117 "ShellHeapModel" "right" "[I", .methodLink RX12 422 yX12_made, .static yX12_made, .initialized RX12, .methodLink RX12 409 yX12_truth, .static yX12_truth, .fieldLink RX12 123 "ShellHeapModel" "ahead" "[Z", .fieldLink RX12 120 "ShellHeapModel" "amount" "[I", .methodLink RX12 419 yX12_nameValue, .instanceMethod yX12_nameValue, .selects RX12 yX12_nameValue yX12_nameValue, .methodLink RX12 416 yX12_aheadOf, .instanceMethod yX12_aheadOf, .selects RX12 yX12_aheadOf yX12_aheadOf] ++ (wsX120 ++ (u_s_X12_made ++ (u_s_X12_truth ++ (u_s_X12_nameValue ++ (u_s_X12_aheadOf ++ []))))))
theorem gd_s_X12_causeOf : z_gd u_s_X12_causeOf := z_gdc (by decide +kernel) (z_gda gdX12 (z_gda gd_s_X12_made (z_gda gd_s_X12_truth (z_gda gd_s_X12_nameValue (z_gda gd_s_X12_aheadOf (z_gd0))))))
set_option maxRecDepth 20000 in
theorem gw_s_X12_causeOf_s_X12_made_422 : GoodIn u_s_X12_causeOf (va_wsS RX12 422 yX12_made u_s_X12_made) := z_gS (z_gr _ [9, 10, 11] rfl (by decide +kernel)) (fun w h => ⟨z_mc (z_mr (z_mr (z_ml h))), gd_s_X12_made w h⟩)
set_option maxRecDepth 20000 in
theorem gw_s_X12_causeOf_s_X12_truth_409 : GoodIn u_s_X12_causeOf (va_wsS RX12 409 yX12_truth u_s_X12_truth) := z_gS (z_gr _ [12, 13, 11] rfl (by decide +kernel)) (fun w h => ⟨z_mc (z_mr (z_mr (z_mr (z_ml h)))), gd_s_X12_truth w h⟩)
set_option maxRecDepth 20000 in
theorem gw_s_X12_causeOf_s_X12_nameValue_419 : GoodIn u_s_X12_causeOf (wsV RX12 419 RX12 yX12_nameValue u_s_X12_nameValue) := z_gV (z_gr _ [16, 17, 18, 11] rfl (by decide +kernel)) (fun w h => ⟨z_mc (z_mr (z_mr (z_mr (z_mr (z_ml h))))), gd_s_X12_nameValue w h⟩)
set_option maxRecDepth 20000 in
theorem gw_s_X12_causeOf_s_X12_aheadOf_416 : GoodIn u_s_X12_causeOf (wsV RX12 416 RX12 yX12_aheadOf u_s_X12_aheadOf) := z_gV (z_gr _ [19, 20, 21, 11] rfl (by decide +kernel)) (fun w h => ⟨z_mc (z_mr (z_mr (z_mr (z_mr (z_mr (z_ml h)))))), gd_s_X12_aheadOf w h⟩)
set_option maxHeartbeats 4000000 in
set_option maxRecDepth 100000 in
theorem s_X12_causeOf (l : Launch) (dC : Nat → ClassId) (dI : Nat → Nat → Nat) (sz : Nat) (h0 : Nat) (p1 : Int32) (p2 : Int32) (h0_0 : Value) (h0_1 : Value) (h0_2 : Value) (ml : Int32) (mn : Int32) (hs : Nat) (ha : Nat) (hb9 : Nat) (h0_8 : Value) (hct : Nat) (hfo : Nat) (hbd : Nat) (hlt : Nat) (hrk : Nat) (h0_14 : Value) (h0_15 : Value) (mq : Int32) (mw : Int32) (mh : Int32) (mc : Int32) (a_cx : Nat) (a_cy : Nat) (a_th : Nat) (mk : Int32) (hme : Nat) (hv : Nat) (hkp : Nat) (h0_27 : Value) (h0_28 : Value) (h0_29 : Value) (h0_30 : Value) (h0_31 : Value) (h0_32 : Value) (h0_33 : Value) (h0_34 : Value) (a_rs : Nat) (a_rg : Nat) (a_td : Nat) (a_pu : Nat) (mm : Int64) (ms : Int32) (a_so : Nat) (a_sh : Nat) (a_rw : Nat) (mca : Int32) (h0_45 : Value) (mkn : Int32) (h0_47 : Value) (h0_48 : Value) (h0_49 : Value) (a_cf : Nat) (a_cm : Nat) (a_kt : Nat) (a_lf : Nat) (a_rt : Nat) (a_am : Nat) (a_ah : Nat) (a_gb : Nat) (h0_58 : Value) (h0_59 : Value) (h0_60 : Value) (h0_61 : Value) (h0_62 : Value) (h0_63 : Value) (h0_64 : Value) (h0_65 : Value) (h0_66 : Value) (h0_67 : Value) (h0_68 : Value) (a_wk : Nat) (chct : ClassId) (fhct : Nat → Int32) (chs : ClassId) (fhs : Nat → Int32) (cha : ClassId) (fha : Nat → Int32) (chb9 : ClassId) (fhb9 : Nat → Int32) (chbd : ClassId) (fhbd : Nat → Int32) (chlt : ClassId) (fhlt : Nat → Int32) (chrk : ClassId) (fhrk : Nat → Int32) (ca_cx : ClassId) (fa_cx : Nat → Int32) (ca_cy : ClassId) (fa_cy : Nat → Int32) (ca_th : ClassId) (fa_th : Nat → Int32) (chfo : ClassId) (fhfo : Nat → Int32) (chme : ClassId) (fhme : Nat → Int32) (chv : ClassId) (fhv : Nat → Int32) (chkp : ClassId) (fhkp : Nat → Int32) (ca_rs : ClassId) (fa_rs : Nat → Int32) (ca_rg : ClassId) (fa_rg : Nat → Int32) (ca_td : ClassId) (fa_td : Nat → Int32) (ca_pu : ClassId) (fa_pu : Nat → Int32) (ca_so : ClassId) (fa_so : Nat → Int32) (ca_sh : ClassId) (fa_sh : Nat → Int32) (ca_rw : ClassId) (fa_rw : Nat → Int32) (ca_wk : ClassId) (fa_wk : Nat → Int64) (ca_cf : ClassId) (fa_cf : Nat → Int32) (ca_cm : ClassId) (fa_cm : Nat → Int32) (ca_kt : ClassId) (fa_kt : Nat → Int32) (ca_lf : ClassId) (fa_lf : Nat → Int32) (ca_rt : ClassId) (fa_rt : Nat → Int32) (ca_am : ClassId) (fa_am : Nat → Int32) (ca_ah : ClassId) (fa_ah : Nat → Int32) (ca_gb : ClassId) (fa_gb : Nat → Int32) (kg : Int) (hB_mn : ((0 : Int) ≤ (mn).toInt ∧ (mn).toInt ≤ (80 : Int))) (hB_ml : ((0 : Int) ≤ (ml).toInt ∧ (ml).toInt ≤ (12 : Int))) (hB_mq : ((0 : Int) ≤ (mq).toInt ∧ (mq).toInt ≤ (2 : Int))) (hB_mw : ((2 : Int) ≤ (mw).toInt ∧ (mw).toInt ≤ (12 : Int))) (hB_mh : ((2 : Int) ≤ (mh).toInt ∧ (mh).toInt ≤ (12 : Int))) (hB_mc : ((0 : Int) ≤ (mc).toInt ∧ (mc).toInt ≤ (10 : Int))) (hB_mk : ((0 : Int) ≤ (mk).toInt ∧ (mk).toInt ≤ (6 : Int))) (hB_ms : ((0 : Int) ≤ (ms).toInt ∧ (ms).toInt ≤ (200 : Int))) (hB_p1 : ((0 : Int) ≤ (p1).toInt ∧ (p1).toInt ≤ (5 : Int))) (hB_p2 : ((0 : Int) ≤ (p2).toInt ∧ (p2).toInt ≤ (11 : Int))) (hB_mkn : ((0 : Int) ≤ (mkn).toInt ∧ (mkn).toInt ≤ (96 : Int))) (hB_mca : ((0 : Int) ≤ (mca).toInt ∧ (mca).toInt ≤ (6 : Int))) (hI_ha : ∀ j : Nat, ((0 : Int) ≤ (fha j).toInt ∧ (fha j).toInt ≤ (79 : Int))) (hI_hbd : ∀ j : Nat, ((0 : Int) ≤ (fhbd j).toInt ∧ (fhbd j).toInt ≤ (11 : Int))) (hI_hkp : ∀ j : Nat, ((1 : Int) ≤ (fhkp j).toInt ∧ (fhkp j).toInt ≤ (16 : Int))) (hI_a_so : ∀ j : Nat, ((0 : Int) ≤ (fa_so j).toInt ∧ (fa_so j).toInt ≤ (11 : Int))) (hR : ∀ j : Nat, z_relm (fhs j) (fha j) (fhb9 j)) (hLow : z_low fa_kt fa_lf fa_rt fa_gb fa_cf fa_cm kg mca.toInt) (hkg : kg ≤ 96) (hpc : p1.toInt < mca.toInt) : Met l yX12_causeOf u_s_X12_causeOf ({ frames := 5, cells := 0, slots := 0, locals := 123 }) (va_Pc [.ref h0, .int p1, .int p2] (z_C (dC, dI) vwCl [(h0, .inr (12, [h0_0, h0_1, h0_2, .int ml, .int mn, .ref hs, .ref ha, .ref hb9, h0_8, .ref hct, .ref hfo, .ref hbd, .ref hlt, .ref hrk, h0_14, h0_15, .int mq, .int mw, .int mh, .int mc, .ref a_cx, .ref a_cy, .ref a_th, .int mk, .ref hme, .ref hv, .ref hkp, h0_27, h0_28, h0_29, h0_30, h0_31, h0_32, h0_33, h0_34, .ref a_rs, .ref a_rg, .ref a_td, .ref a_pu, .long mm, .int ms, .ref a_so, .ref a_sh, .ref a_rw, .int mca, h0_45, .int mkn, h0_47, h0_48, h0_49, .ref a_cf, .ref a_cm, .ref a_kt, .ref a_lf, .ref a_rt, .ref a_am, .ref a_ah, .ref a_gb, h0_58, h0_59, h0_60, h0_61, h0_62, h0_63, h0_64, h0_65, h0_66, h0_67, h0_68, .ref a_wk])), (hct, .inl (chct, 80, .inl fhct)), (hs, .inl (chs, 80, .inl fhs)), (ha, .inl (cha, 80, .inl fha)), (hb9, .inl (chb9, 80, .inl fhb9)), (hbd, .inl (chbd, 12, .inl fhbd)), (hlt, .inl (chlt, 144, .inl fhlt)), (hrk, .inl (chrk, 12, .inl fhrk)), (a_cx, .inl (ca_cx, 10, .inl fa_cx)), (a_cy, .inl (ca_cy, 10, .inl fa_cy)), (a_th, .inl (ca_th, 120, .inl fa_th)), (hfo, .inl (chfo, 11520, .inl fhfo)), (hme, .inl (chme, 6, .inl fhme)), (hv, .inl (chv, 6, .inl fhv)), (hkp, .inl (chkp, 24, .inl fhkp)), (a_rs, .inl (ca_rs, 48, .inl fa_rs)), (a_rg, .inl (ca_rg, 144, .inl fa_rg)), (a_td, .inl (ca_td, 4, .inl fa_td)), (a_pu, .inl (ca_pu, 4, .inl fa_pu)), (a_so, .inl (ca_so, 200, .inl fa_so)), (a_sh, .inl (ca_sh, 600, .inl fa_sh)), (a_rw, .inl (ca_rw, 200, .inl fa_rw)), (a_wk, .inl (ca_wk, 96, .inr (.inl fa_wk))), (a_cf, .inl (ca_cf, 12, .inl fa_cf)), (a_cm, .inl (ca_cm, 12, .inl fa_cm)), (a_kt, .inl (ca_kt, 192, .inl fa_kt)), (a_lf, .inl (ca_lf, 192, .inl fa_lf)), (a_rt, .inl (ca_rt, 192, .inl fa_rt)), (a_am, .inl (ca_am, 192, .inl fa_am)), (a_ah, .inl (ca_ah, 192, .inl fa_ah)), (a_gb, .inl (ca_gb, 192, .inl fa_gb))] [(chct, .boolean), (chs, .int), (cha, .int), (chb9, .int), (chbd, .int), (chlt, .boolean), (chrk, .int), (ca_cx, .int), (ca_cy, .int), (ca_th, .int), (chfo, .int), (chme, .int), (chv, .int), (chkp, .int), (ca_rs, .int), (ca_rg, .int), (ca_td, .int), (ca_pu, .int), (ca_so, .int), (ca_sh, .int), (ca_rw, .int), (ca_wk, .long), (ca_cf, .int), (ca_cm, .int), (ca_kt, .int), (ca_lf, .int), (ca_rt, .int), (ca_am, .int), (ca_ah, .boolean), (ca_gb, .int)] sz)) (va_Ql (fun (r : Int64) (_ : Unit) => True) (fun (_ : Unit) (t : State) => ∃ (n_h0_miss : Int64), ∃ (g_a_td : Nat → Int32), ∃ (g_a_pu : Nat → Int32), ∃ (g_a_rw : Nat → Int32), ∃ (g_a_wk : Nat → Int64), va_P (dC, dI) vwCl [(h0, .inr (12, [h0_0, h0_1, h0_2, .int ml, .int mn, .ref hs, .ref ha, .ref hb9, h0_8, .ref hct, .ref hfo, .ref hbd, .ref hlt, .ref hrk, h0_14, h0_15, .int mq, .int mw, .int mh, .int mc, .ref a_cx, .ref a_cy, .ref a_th, .int mk, .ref hme, .ref hv, .ref hkp, h0_27, h0_28, h0_29, h0_30, h0_31, h0_32, h0_33, h0_34, .ref a_rs, .ref a_rg, .ref a_td, .ref a_pu, .long n_h0_miss, .int ms, .ref a_so, .ref a_sh, .ref a_rw, .int mca, h0_45, .int mkn, h0_47, h0_48, h0_49, .ref a_cf, .ref a_cm, .ref a_kt, .ref a_lf, .ref a_rt, .ref a_am, .ref a_ah, .ref a_gb, h0_58, h0_59, h0_60, h0_61, h0_62, h0_63, h0_64, h0_65, h0_66, h0_67, h0_68, .ref a_wk])), (hct, .inl (chct, 80, .inl fhct)), (hs, .inl (chs, 80, .inl fhs)), (ha, .inl (cha, 80, .inl fha)), (hb9, .inl (chb9, 80, .inl fhb9)), (hbd, .inl (chbd, 12, .inl fhbd)), (hlt, .inl (chlt, 144, .inl fhlt)), (hrk, .inl (chrk, 12, .inl fhrk)), (a_cx, .inl (ca_cx, 10, .inl fa_cx)), (a_cy, .inl (ca_cy, 10, .inl fa_cy)), (a_th, .inl (ca_th, 120, .inl fa_th)), (hfo, .inl (chfo, 11520, .inl fhfo)), (hme, .inl (chme, 6, .inl fhme)), (hv, .inl (chv, 6, .inl fhv)), (hkp, .inl (chkp, 24, .inl fhkp)), (a_rs, .inl (ca_rs, 48, .inl fa_rs)), (a_rg, .inl (ca_rg, 144, .inl fa_rg)), (a_td, .inl (ca_td, 4, .inl g_a_td)), (a_pu, .inl (ca_pu, 4, .inl g_a_pu)), (a_so, .inl (ca_so, 200, .inl fa_so)), (a_sh, .inl (ca_sh, 600, .inl fa_sh)), (a_rw, .inl (ca_rw, 200, .inl g_a_rw)), (a_wk, .inl (ca_wk, 96, .inr (.inl g_a_wk))), (a_cf, .inl (ca_cf, 12, .inl fa_cf)), (a_cm, .inl (ca_cm, 12, .inl fa_cm)), (a_kt, .inl (ca_kt, 192, .inl fa_kt)), (a_lf, .inl (ca_lf, 192, .inl fa_lf)), (a_rt, .inl (ca_rt, 192, .inl fa_rt)), (a_am, .inl (ca_am, 192, .inl fa_am)), (a_ah, .inl (ca_ah, 192, .inl fa_ah)), (a_gb, .inl (ca_gb, 192, .inl fa_gb))] t.heap ∧ va_K (dC, dI) vwCl [] t ∧ va_D (va_A [(h0, .inr (12, [h0_0, h0_1, h0_2, .int ml, .int mn, .ref hs, .ref ha, .ref hb9, h0_8, .ref hct, .ref hfo, .ref hbd, .ref hlt, .ref hrk, h0_14, h0_15, .int mq, .int mw, .int mh, .int mc, .ref a_cx, .ref a_cy, .ref a_th, .int mk, .ref hme, .ref hv, .ref hkp, h0_27, h0_28, h0_29, h0_30, h0_31, h0_32, h0_33, h0_34, .ref a_rs, .ref a_rg, .ref a_td, .ref a_pu, .long mm, .int ms, .ref a_so, .ref a_sh, .ref a_rw, .int mca, h0_45, .int mkn, h0_47, h0_48, h0_49, .ref a_cf, .ref a_cm, .ref a_kt, .ref a_lf, .ref a_rt, .ref a_am, .ref a_ah, .ref a_gb, h0_58, h0_59, h0_60, h0_61, h0_62, h0_63, h0_64, h0_65, h0_66, h0_67, h0_68, .ref a_wk])), (hct, .inl (chct, 80, .inl fhct)), (hs, .inl (chs, 80, .inl fhs)), (ha, .inl (cha, 80, .inl fha)), (hb9, .inl (chb9, 80, .inl fhb9)), (hbd, .inl (chbd, 12, .inl fhbd)), (hlt, .inl (chlt, 144, .inl fhlt)), (hrk, .inl (chrk, 12, .inl fhrk)), (a_cx, .inl (ca_cx, 10, .inl fa_cx)), (a_cy, .inl (ca_cy, 10, .inl fa_cy)), (a_th, .inl (ca_th, 120, .inl fa_th)), (hfo, .inl (chfo, 11520, .inl fhfo)), (hme, .inl (chme, 6, .inl fhme)), (hv, .inl (chv, 6, .inl fhv)), (hkp, .inl (chkp, 24, .inl fhkp)), (a_rs, .inl (ca_rs, 48, .inl fa_rs)), (a_rg, .inl (ca_rg, 144, .inl fa_rg)), (a_td, .inl (ca_td, 4, .inl fa_td)), (a_pu, .inl (ca_pu, 4, .inl fa_pu)), (a_so, .inl (ca_so, 200, .inl fa_so)), (a_sh, .inl (ca_sh, 600, .inl fa_sh)), (a_rw, .inl (ca_rw, 200, .inl fa_rw)), (a_wk, .inl (ca_wk, 96, .inr (.inl fa_wk))), (a_cf, .inl (ca_cf, 12, .inl fa_cf)), (a_cm, .inl (ca_cm, 12, .inl fa_cm)), (a_kt, .inl (ca_kt, 192, .inl fa_kt)), (a_lf, .inl (ca_lf, 192, .inl fa_lf)), (a_rt, .inl (ca_rt, 192, .inl fa_rt)), (a_am, .inl (ca_am, 192, .inl fa_am)), (a_ah, .inl (ca_ah, 192, .inl fa_ah)), (a_gb, .inl (ca_gb, 192, .inl fa_gb))] sz) [(h0, .inr (12, [h0_0, h0_1, h0_2, .int ml, .int mn, .ref hs, .ref ha, .ref hb9, h0_8, .ref hct, .ref hfo, .ref hbd, .ref hlt, .ref hrk, h0_14, h0_15, .int mq, .int mw, .int mh, .int mc, .ref a_cx, .ref a_cy, .ref a_th, .int mk, .ref hme, .ref hv, .ref hkp, h0_27, h0_28, h0_29, h0_30, h0_31, h0_32, h0_33, h0_34, .ref a_rs, .ref a_rg, .ref a_td, .ref a_pu, .long n_h0_miss, .int ms, .ref a_so, .ref a_sh, .ref a_rw, .int mca, h0_45, .int mkn, h0_47, h0_48, h0_49, .ref a_cf, .ref a_cm, .ref a_kt, .ref a_lf, .ref a_rt, .ref a_am, .ref a_ah, .ref a_gb, h0_58, h0_59, h0_60, h0_61, h0_62, h0_63, h0_64, h0_65, h0_66, h0_67, h0_68, .ref a_wk])), (hct, .inl (chct, 80, .inl fhct)), (hs, .inl (chs, 80, .inl fhs)), (ha, .inl (cha, 80, .inl fha)), (hb9, .inl (chb9, 80, .inl fhb9)), (hbd, .inl (chbd, 12, .inl fhbd)), (hlt, .inl (chlt, 144, .inl fhlt)), (hrk, .inl (chrk, 12, .inl fhrk)), (a_cx, .inl (ca_cx, 10, .inl fa_cx)), (a_cy, .inl (ca_cy, 10, .inl fa_cy)), (a_th, .inl (ca_th, 120, .inl fa_th)), (hfo, .inl (chfo, 11520, .inl fhfo)), (hme, .inl (chme, 6, .inl fhme)), (hv, .inl (chv, 6, .inl fhv)), (hkp, .inl (chkp, 24, .inl fhkp)), (a_rs, .inl (ca_rs, 48, .inl fa_rs)), (a_rg, .inl (ca_rg, 144, .inl fa_rg)), (a_td, .inl (ca_td, 4, .inl g_a_td)), (a_pu, .inl (ca_pu, 4, .inl g_a_pu)), (a_so, .inl (ca_so, 200, .inl fa_so)), (a_sh, .inl (ca_sh, 600, .inl fa_sh)), (a_rw, .inl (ca_rw, 200, .inl g_a_rw)), (a_wk, .inl (ca_wk, 96, .inr (.inl g_a_wk))), (a_cf, .inl (ca_cf, 12, .inl fa_cf)), (a_cm, .inl (ca_cm, 12, .inl fa_cm)), (a_kt, .inl (ca_kt, 192, .inl fa_kt)), (a_lf, .inl (ca_lf, 192, .inl fa_lf)), (a_rt, .inl (ca_rt, 192, .inl fa_rt)), (a_am, .inl (ca_am, 192, .inl fa_am)), (a_ah, .inl (ca_ah, 192, .inl fa_ah)), (a_gb, .inl (ca_gb, 192, .inl fa_gb))]) (va_A [(h0, .inr (12, [h0_0, h0_1, h0_2, .int ml, .int mn, .ref hs, .ref ha, .ref hb9, h0_8, .ref hct, .ref hfo, .ref hbd, .ref hlt, .ref hrk, h0_14, h0_15, .int mq, .int mw, .int mh, .int mc, .ref a_cx, .ref a_cy, .ref a_th, .int mk, .ref hme, .ref hv, .ref hkp, h0_27, h0_28, h0_29, h0_30, h0_31, h0_32, h0_33, h0_34, .ref a_rs, .ref a_rg, .ref a_td, .ref a_pu, .long mm, .int ms, .ref a_so, .ref a_sh, .ref a_rw, .int mca, h0_45, .int mkn, h0_47, h0_48, h0_49, .ref a_cf, .ref a_cm, .ref a_kt, .ref a_lf, .ref a_rt, .ref a_am, .ref a_ah, .ref a_gb, h0_58, h0_59, h0_60, h0_61, h0_62, h0_63, h0_64, h0_65, h0_66, h0_67, h0_68, .ref a_wk])), (hct, .inl (chct, 80, .inl fhct)), (hs, .inl (chs, 80, .inl fhs)), (ha, .inl (cha, 80, .inl fha)), (hb9, .inl (chb9, 80, .inl fhb9)), (hbd, .inl (chbd, 12, .inl fhbd)), (hlt, .inl (chlt, 144, .inl fhlt)), (hrk, .inl (chrk, 12, .inl fhrk)), (a_cx, .inl (ca_cx, 10, .inl fa_cx)), (a_cy, .inl (ca_cy, 10, .inl fa_cy)), (a_th, .inl (ca_th, 120, .inl fa_th)), (hfo, .inl (chfo, 11520, .inl fhfo)), (hme, .inl (chme, 6, .inl fhme)), (hv, .inl (chv, 6, .inl fhv)), (hkp, .inl (chkp, 24, .inl fhkp)), (a_rs, .inl (ca_rs, 48, .inl fa_rs)), (a_rg, .inl (ca_rg, 144, .inl fa_rg)), (a_td, .inl (ca_td, 4, .inl fa_td)), (a_pu, .inl (ca_pu, 4, .inl fa_pu)), (a_so, .inl (ca_so, 200, .inl fa_so)), (a_sh, .inl (ca_sh, 600, .inl fa_sh)), (a_rw, .inl (ca_rw, 200, .inl fa_rw)), (a_wk, .inl (ca_wk, 96, .inr (.inl fa_wk))), (a_cf, .inl (ca_cf, 12, .inl fa_cf)), (a_cm, .inl (ca_cm, 12, .inl fa_cm)), (a_kt, .inl (ca_kt, 192, .inl fa_kt)), (a_lf, .inl (ca_lf, 192, .inl fa_lf)), (a_rt, .inl (ca_rt, 192, .inl fa_rt)), (a_am, .inl (ca_am, 192, .inl fa_am)), (a_ah, .inl (ca_ah, 192, .inl fa_ah)), (a_gb, .inl (ca_gb, 192, .inl fa_gb))] sz)) 0 0 (va_A [(h0, .inr (12, [h0_0, h0_1, h0_2, .int ml, .int mn, .ref hs, .ref ha, .ref hb9, h0_8, .ref hct, .ref hfo, .ref hbd, .ref hlt, .ref hrk, h0_14, h0_15, .int mq, .int mw, .int mh, .int mc, .ref a_cx, .ref a_cy, .ref a_th, .int mk, .ref hme, .ref hv, .ref hkp, h0_27, h0_28, h0_29, h0_30, h0_31, h0_32, h0_33, h0_34, .ref a_rs, .ref a_rg, .ref a_td, .ref a_pu, .long mm, .int ms, .ref a_so, .ref a_sh, .ref a_rw, .int mca, h0_45, .int mkn, h0_47, h0_48, h0_49, .ref a_cf, .ref a_cm, .ref a_kt, .ref a_lf, .ref a_rt, .ref a_am, .ref a_ah, .ref a_gb, h0_58, h0_59, h0_60, h0_61, h0_62, h0_63, h0_64, h0_65, h0_66, h0_67, h0_68, .ref a_wk])), (hct, .inl (chct, 80, .inl fhct)), (hs, .inl (chs, 80, .inl fhs)), (ha, .inl (cha, 80, .inl fha)), (hb9, .inl (chb9, 80, .inl fhb9)), (hbd, .inl (chbd, 12, .inl fhbd)), (hlt, .inl (chlt, 144, .inl fhlt)), (hrk, .inl (chrk, 12, .inl fhrk)), (a_cx, .inl (ca_cx, 10, .inl fa_cx)), (a_cy, .inl (ca_cy, 10, .inl fa_cy)), (a_th, .inl (ca_th, 120, .inl fa_th)), (hfo, .inl (chfo, 11520, .inl fhfo)), (hme, .inl (chme, 6, .inl fhme)), (hv, .inl (chv, 6, .inl fhv)), (hkp, .inl (chkp, 24, .inl fhkp)), (a_rs, .inl (ca_rs, 48, .inl fa_rs)), (a_rg, .inl (ca_rg, 144, .inl fa_rg)), (a_td, .inl (ca_td, 4, .inl fa_td)), (a_pu, .inl (ca_pu, 4, .inl fa_pu)), (a_so, .inl (ca_so, 200, .inl fa_so)), (a_sh, .inl (ca_sh, 600, .inl fa_sh)), (a_rw, .inl (ca_rw, 200, .inl fa_rw)), (a_wk, .inl (ca_wk, 96, .inr (.inl fa_wk))), (a_cf, .inl (ca_cf, 12, .inl fa_cf)), (a_cm, .inl (ca_cm, 12, .inl fa_cm)), (a_kt, .inl (ca_kt, 192, .inl fa_kt)), (a_lf, .inl (ca_lf, 192, .inl fa_lf)), (a_rt, .inl (ca_rt, 192, .inl fa_rt)), (a_am, .inl (ca_am, 192, .inl fa_am)), (a_ah, .inl (ca_ah, 192, .inl fa_ah)), (a_gb, .inl (ca_gb, 192, .inl fa_gb))] sz) := by
  refine Met.ofW (cc := cX12_causeOf) (maxL := 9) (ret := (some .long)) (by decide) rfl ?_
  intro p e s m args below meth c s₁ B hml hv
  obtain ⟨rfl, hsz, hP, hK, hD0⟩ := hv
  have hx := B.exec
  have hb := B.bytes
  have hr := B.returns
  have hts := atoms_spec (ws := u_s_X12_causeOf) B.pre
  have hown : s.vm.findClass RX12 = some m.cls := findClass_of_methodNamed B.named
  have hlocks := B.notSynchronized
  subst hsz
  have hD := hD0.self (sz := s.heap.size)
  generalize hAe : va_A [(h0, .inr (12, [h0_0, h0_1, h0_2, .int ml, .int mn, .ref hs, .ref ha, .ref hb9, h0_8, .ref hct, .ref hfo, .ref hbd, .ref hlt, .ref hrk, h0_14, h0_15, .int mq, .int mw, .int mh, .int mc, .ref a_cx, .ref a_cy, .ref a_th, .int mk, .ref hme, .ref hv, .ref hkp, h0_27, h0_28, h0_29, h0_30, h0_31, h0_32, h0_33, h0_34, .ref a_rs, .ref a_rg, .ref a_td, .ref a_pu, .long mm, .int ms, .ref a_so, .ref a_sh, .ref a_rw, .int mca, h0_45, .int mkn, h0_47, h0_48, h0_49, .ref a_cf, .ref a_cm, .ref a_kt, .ref a_lf, .ref a_rt, .ref a_am, .ref a_ah, .ref a_gb, h0_58, h0_59, h0_60, h0_61, h0_62, h0_63, h0_64, h0_65, h0_66, h0_67, h0_68, .ref a_wk])), (hct, .inl (chct, 80, .inl fhct)), (hs, .inl (chs, 80, .inl fhs)), (ha, .inl (cha, 80, .inl fha)), (hb9, .inl (chb9, 80, .inl fhb9)), (hbd, .inl (chbd, 12, .inl fhbd)), (hlt, .inl (chlt, 144, .inl fhlt)), (hrk, .inl (chrk, 12, .inl fhrk)), (a_cx, .inl (ca_cx, 10, .inl fa_cx)), (a_cy, .inl (ca_cy, 10, .inl fa_cy)), (a_th, .inl (ca_th, 120, .inl fa_th)), (hfo, .inl (chfo, 11520, .inl fhfo)), (hme, .inl (chme, 6, .inl fhme)), (hv, .inl (chv, 6, .inl fhv)), (hkp, .inl (chkp, 24, .inl fhkp)), (a_rs, .inl (ca_rs, 48, .inl fa_rs)), (a_rg, .inl (ca_rg, 144, .inl fa_rg)), (a_td, .inl (ca_td, 4, .inl fa_td)), (a_pu, .inl (ca_pu, 4, .inl fa_pu)), (a_so, .inl (ca_so, 200, .inl fa_so)), (a_sh, .inl (ca_sh, 600, .inl fa_sh)), (a_rw, .inl (ca_rw, 200, .inl fa_rw)), (a_wk, .inl (ca_wk, 96, .inr (.inl fa_wk))), (a_cf, .inl (ca_cf, 12, .inl fa_cf)), (a_cm, .inl (ca_cm, 12, .inl fa_cm)), (a_kt, .inl (ca_kt, 192, .inl fa_kt)), (a_lf, .inl (ca_lf, 192, .inl fa_lf)), (a_rt, .inl (ca_rt, 192, .inl fa_rt)), (a_am, .inl (ca_am, 192, .inl fa_am)), (a_ah, .inl (ca_ah, 192, .inl fa_ah)), (a_gb, .inl (ca_gb, 192, .inl fa_gb))] s.heap.size = A at hD ⊢
  have hA : ∀ q : Nat, s.heap.size ≤ q → A q := fun q h => by rw [← hAe]; exact Or.inr h
  have hS : va_S A s.heap s.heap [] := va_S.rf
  have hP : va_P (dC, dI) vwCl [(h0, .inr (12, [h0_0, h0_1, h0_2, .int ml, .int mn, .ref hs, .ref ha, .ref hb9, h0_8, .ref hct, .ref hfo, .ref hbd, .ref hlt, .ref hrk, h0_14, h0_15, .int mq, .int mw, .int mh, .int mc, .ref a_cx, .ref a_cy, .ref a_th, .int mk, .ref hme, .ref hv, .ref hkp, h0_27, h0_28, h0_29, h0_30, h0_31, h0_32, h0_33, h0_34, .ref a_rs, .ref a_rg, .ref a_td, .ref a_pu, .long mm, .int ms, .ref a_so, .ref a_sh, .ref a_rw, .int mca, h0_45, .int mkn, h0_47, h0_48, h0_49, .ref a_cf, .ref a_cm, .ref a_kt, .ref a_lf, .ref a_rt, .ref a_am, .ref a_ah, .ref a_gb, h0_58, h0_59, h0_60, h0_61, h0_62, h0_63, h0_64, h0_65, h0_66, h0_67, h0_68, .ref a_wk])), (hct, .inl (chct, 80, .inl fhct)), (hs, .inl (chs, 80, .inl fhs)), (ha, .inl (cha, 80, .inl fha)), (hb9, .inl (chb9, 80, .inl fhb9)), (hbd, .inl (chbd, 12, .inl fhbd)), (hlt, .inl (chlt, 144, .inl fhlt)), (hrk, .inl (chrk, 12, .inl fhrk)), (a_cx, .inl (ca_cx, 10, .inl fa_cx)), (a_cy, .inl (ca_cy, 10, .inl fa_cy)), (a_th, .inl (ca_th, 120, .inl fa_th)), (hfo, .inl (chfo, 11520, .inl fhfo)), (hme, .inl (chme, 6, .inl fhme)), (hv, .inl (chv, 6, .inl fhv)), (hkp, .inl (chkp, 24, .inl fhkp)), (a_rs, .inl (ca_rs, 48, .inl fa_rs)), (a_rg, .inl (ca_rg, 144, .inl fa_rg)), (a_td, .inl (ca_td, 4, .inl fa_td)), (a_pu, .inl (ca_pu, 4, .inl fa_pu)), (a_so, .inl (ca_so, 200, .inl fa_so)), (a_sh, .inl (ca_sh, 600, .inl fa_sh)), (a_rw, .inl (ca_rw, 200, .inl fa_rw)), (a_wk, .inl (ca_wk, 96, .inr (.inl fa_wk))), (a_cf, .inl (ca_cf, 12, .inl fa_cf)), (a_cm, .inl (ca_cm, 12, .inl fa_cm)), (a_kt, .inl (ca_kt, 192, .inl fa_kt)), (a_lf, .inl (ca_lf, 192, .inl fa_lf)), (a_rt, .inl (ca_rt, 192, .inl fa_rt)), (a_am, .inl (ca_am, 192, .inl fa_am)), (a_ah, .inl (ca_ah, 192, .inl fa_ah)), (a_gb, .inl (ca_gb, 192, .inl fa_gb))] s.heap := hP
  have w__constantLong_RX12_396_9223372036854775808_ := hts (.constantLong RX12 396 (-9223372036854775808)) (z_mc (z_ml z_m0))
  have w__fieldLink_RX12_108_ShellHeapModel_causeMany_I_ := hts (.fieldLink RX12 108 "ShellHeapModel" "causeMany" "[I") (z_mc (z_ml z_m1))
  have hiX12 := show ∀ w ∈ u_ws RX12 TX12 70, w ∈ u_s_X12_causeOf from fun w h => z_mc (z_mr (z_ml h))
  have w__fieldLink_RX12_126_ShellHeapModel_goesBy_I_ := hts (.fieldLink RX12 126 "ShellHeapModel" "goesBy" "[I") (z_mc (z_ml z_m2))
  have w__fieldLink_RX12_105_ShellHeapModel_causeFirst_I_ := hts (.fieldLink RX12 105 "ShellHeapModel" "causeFirst" "[I") (z_mc (z_ml z_m3))
  have w__fieldLink_RX12_111_ShellHeapModel_knot_I_ := hts (.fieldLink RX12 111 "ShellHeapModel" "knot" "[I") (z_mc (z_ml z_m4))
  have w__fieldLink_RX12_141_ShellHeapModel_worked_J_ := hts (.fieldLink RX12 141 "ShellHeapModel" "worked" "[J") (z_mc (z_ml z_m5))
  have w__fieldLink_RX12_114_ShellHeapModel_left_I_ := hts (.fieldLink RX12 114 "ShellHeapModel" "left" "[I") (z_mc (z_ml z_m6))
  have w__fieldLink_RX12_117_ShellHeapModel_right_I_ := hts (.fieldLink RX12 117 "ShellHeapModel" "right" "[I") (z_mc (z_ml z_m7))
  have w__fieldLink_RX12_123_ShellHeapModel_ahead_Z_ := hts (.fieldLink RX12 123 "ShellHeapModel" "ahead" "[Z") (z_mc (z_ml z_m13))
  have w__fieldLink_RX12_120_ShellHeapModel_amount_I_ := hts (.fieldLink RX12 120 "ShellHeapModel" "amount" "[I") (z_mc (z_ml z_m14))
  have hl := lv_entry ([.ref h0, .int p1, .int p2]) (n := 9) (Nat.le_of_ble_eq_true rfl)
  rw [lg_entry_eq]
  generalize (lg_sl ([.ref h0, .int p1, .int p2]) ++ List.replicate (9 - (lg_sl ([.ref h0, .int p1, .int p2])).length) Slot.unset).toArray = ls at hl ⊢
  have hl : lv_has ls 9 [(0, .ref h0), (1, .int p1), (2, .int p2)] := hl
  refine z_nameQ (fun QQ hQQ => ?_)
  have kcm := z_low_c hLow (c := p1) (by omega) (by omega)
  refine lv_ldc2 (v := (-9223372036854775808)) hx hb hown w__constantLong_RX12_396_9223372036854775808_ dX12_causeOf_0 ?_
  refine lv_lstore_n (lv' := [(3, .long (-9223372036854775808)), (0, .ref h0), (1, .int p1), (2, .int p2)]) hx hb dX12_causeOf_3 rfl hl (by decide) rfl (fun ls hl => ?_)
  refine lv_iconst (v := 0) hx hb dX12_causeOf_4 (by decide) ?_
  refine lv_istore (lv' := [(5, .int 0), (3, .long (-9223372036854775808)), (0, .ref h0), (1, .int p1), (2, .int p2)]) hx hb dX12_causeOf_5 hl (by decide) rfl (fun ls hl => ?_)
  have loop_1 : ∀ (n_2 : Nat) (v_4 : Int64) (i_5 : Int32) (v_6 : Int64) (f_7 : Nat → Int32) (f_8 : Nat → Int32) (f_9 : Nat → Int32) (f_10 : Nat → Int64) (H : Heap) (locs : List Loc) (ls : Array Slot), (97 - (i_5).toInt).toNat < n_2 → (((0 : Int) ≤ (i_5).toInt ∧ (i_5).toInt ≤ (96 : Int))) → va_P (dC, dI) vwCl [(h0, .inr (12, [h0_0, h0_1, h0_2, .int ml, .int mn, .ref hs, .ref ha, .ref hb9, h0_8, .ref hct, .ref hfo, .ref hbd, .ref hlt, .ref hrk, h0_14, h0_15, .int mq, .int mw, .int mh, .int mc, .ref a_cx, .ref a_cy, .ref a_th, .int mk, .ref hme, .ref hv, .ref hkp, h0_27, h0_28, h0_29, h0_30, h0_31, h0_32, h0_33, h0_34, .ref a_rs, .ref a_rg, .ref a_td, .ref a_pu, .long v_6, .int ms, .ref a_so, .ref a_sh, .ref a_rw, .int mca, h0_45, .int mkn, h0_47, h0_48, h0_49, .ref a_cf, .ref a_cm, .ref a_kt, .ref a_lf, .ref a_rt, .ref a_am, .ref a_ah, .ref a_gb, h0_58, h0_59, h0_60, h0_61, h0_62, h0_63, h0_64, h0_65, h0_66, h0_67, h0_68, .ref a_wk])), (hct, .inl (chct, 80, .inl fhct)), (hs, .inl (chs, 80, .inl fhs)), (ha, .inl (cha, 80, .inl fha)), (hb9, .inl (chb9, 80, .inl fhb9)), (hbd, .inl (chbd, 12, .inl fhbd)), (hlt, .inl (chlt, 144, .inl fhlt)), (hrk, .inl (chrk, 12, .inl fhrk)), (a_cx, .inl (ca_cx, 10, .inl fa_cx)), (a_cy, .inl (ca_cy, 10, .inl fa_cy)), (a_th, .inl (ca_th, 120, .inl fa_th)), (hfo, .inl (chfo, 11520, .inl fhfo)), (hme, .inl (chme, 6, .inl fhme)), (hv, .inl (chv, 6, .inl fhv)), (hkp, .inl (chkp, 24, .inl fhkp)), (a_rs, .inl (ca_rs, 48, .inl fa_rs)), (a_rg, .inl (ca_rg, 144, .inl fa_rg)), (a_td, .inl (ca_td, 4, .inl f_7)), (a_pu, .inl (ca_pu, 4, .inl f_8)), (a_so, .inl (ca_so, 200, .inl fa_so)), (a_sh, .inl (ca_sh, 600, .inl fa_sh)), (a_rw, .inl (ca_rw, 200, .inl f_9)), (a_wk, .inl (ca_wk, 96, .inr (.inl f_10))), (a_cf, .inl (ca_cf, 12, .inl fa_cf)), (a_cm, .inl (ca_cm, 12, .inl fa_cm)), (a_kt, .inl (ca_kt, 192, .inl fa_kt)), (a_lf, .inl (ca_lf, 192, .inl fa_lf)), (a_rt, .inl (ca_rt, 192, .inl fa_rt)), (a_am, .inl (ca_am, 192, .inl fa_am)), (a_ah, .inl (ca_ah, 192, .inl fa_ah)), (a_gb, .inl (ca_gb, 192, .inl fa_gb))] H → va_D A [(h0, .inr (12, [h0_0, h0_1, h0_2, .int ml, .int mn, .ref hs, .ref ha, .ref hb9, h0_8, .ref hct, .ref hfo, .ref hbd, .ref hlt, .ref hrk, h0_14, h0_15, .int mq, .int mw, .int mh, .int mc, .ref a_cx, .ref a_cy, .ref a_th, .int mk, .ref hme, .ref hv, .ref hkp, h0_27, h0_28, h0_29, h0_30, h0_31, h0_32, h0_33, h0_34, .ref a_rs, .ref a_rg, .ref a_td, .ref a_pu, .long v_6, .int ms, .ref a_so, .ref a_sh, .ref a_rw, .int mca, h0_45, .int mkn, h0_47, h0_48, h0_49, .ref a_cf, .ref a_cm, .ref a_kt, .ref a_lf, .ref a_rt, .ref a_am, .ref a_ah, .ref a_gb, h0_58, h0_59, h0_60, h0_61, h0_62, h0_63, h0_64, h0_65, h0_66, h0_67, h0_68, .ref a_wk])), (hct, .inl (chct, 80, .inl fhct)), (hs, .inl (chs, 80, .inl fhs)), (ha, .inl (cha, 80, .inl fha)), (hb9, .inl (chb9, 80, .inl fhb9)), (hbd, .inl (chbd, 12, .inl fhbd)), (hlt, .inl (chlt, 144, .inl fhlt)), (hrk, .inl (chrk, 12, .inl fhrk)), (a_cx, .inl (ca_cx, 10, .inl fa_cx)), (a_cy, .inl (ca_cy, 10, .inl fa_cy)), (a_th, .inl (ca_th, 120, .inl fa_th)), (hfo, .inl (chfo, 11520, .inl fhfo)), (hme, .inl (chme, 6, .inl fhme)), (hv, .inl (chv, 6, .inl fhv)), (hkp, .inl (chkp, 24, .inl fhkp)), (a_rs, .inl (ca_rs, 48, .inl fa_rs)), (a_rg, .inl (ca_rg, 144, .inl fa_rg)), (a_td, .inl (ca_td, 4, .inl f_7)), (a_pu, .inl (ca_pu, 4, .inl f_8)), (a_so, .inl (ca_so, 200, .inl fa_so)), (a_sh, .inl (ca_sh, 600, .inl fa_sh)), (a_rw, .inl (ca_rw, 200, .inl f_9)), (a_wk, .inl (ca_wk, 96, .inr (.inl f_10))), (a_cf, .inl (ca_cf, 12, .inl fa_cf)), (a_cm, .inl (ca_cm, 12, .inl fa_cm)), (a_kt, .inl (ca_kt, 192, .inl fa_kt)), (a_lf, .inl (ca_lf, 192, .inl fa_lf)), (a_rt, .inl (ca_rt, 192, .inl fa_rt)), (a_am, .inl (ca_am, 192, .inl fa_am)), (a_ah, .inl (ca_ah, 192, .inl fa_ah)), (a_gb, .inl (ca_gb, 192, .inl fa_gb))] → va_S A s.heap H locs → lv_has ls 9 [(5, .int i_5), (3, .long v_4), (0, .ref h0), (1, .int p1), (2, .int p2)] → W p l e ({ frames := 5, cells := 0, slots := 0, locals := 123 } : Room) s m ([.ref h0, .int p1, .int p2] : List Value).toArray below meth c H locs 0 0 QQ (F0 m 7 ls []) := by
    intro n_2
    induction n_2 with
    | zero => intro v_4 i_5 v_6 f_7 f_8 f_9 f_10 H locs ls hm; exact absurd hm (Nat.not_lt_zero _)
    | succ n_2 ih_3 =>
      intro v_4 i_5 v_6 f_7 f_8 f_9 f_10 H locs ls hm hF_11 hP hD hS hl
      refine lv_iload hx hb dX12_causeOf_7 (lv_at hl 0 rfl) ?_
      refine lv_aload_n hx hb dX12_causeOf_9 rfl (lv_at hl 2 rfl) ?_
      refine va_get (D := (dC, dI)) (ci := 12) (v := .ref a_cm) (C := RX12) (T := TX12) (N := 70) hx hb hts hiX12 hown hK hP 0 rfl rfl 51 (by decide) w__fieldLink_RX12_108_ShellHeapModel_causeMany_I_ (fun _ h9 => h9) rfl dX12_causeOf_10 ?_
      refine lv_iload_n hx hb dX12_causeOf_13 rfl (lv_at hl 3 rfl) ?_
      refine va_iald hx hb hK hP 24 23 rfl rfl (z_vpinB hB_p1 (by decide) (by decide)) dX12_causeOf_14 ?_
      refine lv_topi (fun z_12 ez_12 => ?_)
      have kxz_12 : (z_12).toInt = (fa_cm (p1 : Int32).toNatClampNeg).toInt := by rw [ez_12]
      refine lv_icmp_ge (tgt := 231) hx hb dX12_causeOf_15 (by decide) (fun c_13 => ?_) (fun c_13 => ?_)
      · have k_14 : (z_12).toInt ≤ (i_5).toInt := z_le c_13
        refine lv_lload_n hx hb dX12_causeOf_231 rfl (lv_at hl 1 rfl) ?_
        refine z_backQ hQQ ?_
        have hP9 := hP
        have hD9 := hD
        have hK9 := hK.sub (tys' := []) [] rfl
        refine W.widen (k := 0) (n := 0) (Nat.le_of_ble_eq_true rfl) (Nat.le_of_ble_eq_true rfl) ?_
        exact W.lret (v := v_4) hx hb hr (fun t ht hW => ⟨⟨v_4, (), rfl, trivial, ⟨v_6, f_7, f_8, f_9, f_10, by rw [ht]; exact hP9, va_K.moved hW.alike hK9, hD9⟩⟩, hS.F ht⟩) hS.2.2 dX12_causeOf_232
      · have k_15 : (z_12).toInt > (i_5).toInt := z_nle c_13
        refine lv_aload_n hx hb dX12_causeOf_18 rfl (lv_at hl 2 rfl) ?_
        refine va_get (D := (dC, dI)) (ci := 12) (v := .ref a_gb) (C := RX12) (T := TX12) (N := 70) hx hb hts hiX12 hown hK hP 0 rfl rfl 57 (by decide) w__fieldLink_RX12_126_ShellHeapModel_goesBy_I_ (fun _ h9 => h9) rfl dX12_causeOf_19 ?_
        refine lv_aload_n hx hb dX12_causeOf_22 rfl (lv_at hl 2 rfl) ?_
        refine va_get (D := (dC, dI)) (ci := 12) (v := .ref a_cf) (C := RX12) (T := TX12) (N := 70) hx hb hts hiX12 hown hK hP 0 rfl rfl 50 (by decide) w__fieldLink_RX12_105_ShellHeapModel_causeFirst_I_ (fun _ h9 => h9) rfl dX12_causeOf_23 ?_
        refine lv_iload_n hx hb dX12_causeOf_26 rfl (lv_at hl 3 rfl) ?_
        refine va_iald hx hb hK hP 23 22 rfl rfl (z_vpinB hB_p1 (by decide) (by decide)) dX12_causeOf_27 ?_
        refine lv_topi (fun z_16 ez_16 => ?_)
        have kxz_16 : (z_16).toInt = (fa_cf (p1 : Int32).toNatClampNeg).toInt := by rw [ez_16]
        refine lv_iload hx hb dX12_causeOf_28 (lv_at hl 0 rfl) ?_
        refine lv_iadd hx hb dX12_causeOf_30 ?_
        refine lv_topi (fun z_17 ez_17 => ?_)
        have kz_17 : (z_17).toInt = (z_16).toInt + (i_5).toInt := by rw [ez_17]; exact z_add (a := (z_16).toInt) (b := (i_5).toInt) rfl rfl (by omega) (by omega)
        refine va_iald hx hb hK hP 30 29 rfl rfl (z_vpin (by omega) (by omega)) dX12_causeOf_31 ?_
        refine lv_topi (fun z_18 ez_18 => ?_)
        have kxz_18 := z_low_g hLow ez_18 (by omega) (by omega)
        obtain ⟨kyz_18, kzz_18, hfz_18⟩ := kxz_18
        refine lv_istore (lv' := [(6, .int z_18), (5, .int i_5), (3, .long v_4), (0, .ref h0), (1, .int p1), (2, .int p2)]) hx hb dX12_causeOf_32 hl (by decide) rfl (fun ls hl => ?_)
        refine lv_aload_n hx hb dX12_causeOf_34 rfl (lv_at hl 3 rfl) ?_
        refine va_get (D := (dC, dI)) (ci := 12) (v := .ref a_kt) (C := RX12) (T := TX12) (N := 70) hx hb hts hiX12 hown hK hP 0 rfl rfl 52 (by decide) w__fieldLink_RX12_111_ShellHeapModel_knot_I_ (fun _ h9 => h9) rfl dX12_causeOf_35 ?_
        refine lv_iload hx hb dX12_causeOf_38 (lv_at hl 0 rfl) ?_
        refine va_iald hx hb hK hP 25 24 rfl rfl (z_vpin (by omega) (by omega)) dX12_causeOf_40 ?_
        refine lv_topi (fun z_19 ez_19 => ?_)
        have hkz_19 := z_fin_k hfz_18 ez_19
        refine lv_istore (lv' := [(7, .int z_19), (6, .int z_18), (5, .int i_5), (3, .long v_4), (0, .ref h0), (1, .int p1), (2, .int p2)]) hx hb dX12_causeOf_41 hl (by decide) rfl (fun ls hl => ?_)
        refine lv_iload hx hb dX12_causeOf_43 (lv_at hl 0 rfl) ?_
        refine lv_if_ne (tgt := 60) hx hb dX12_causeOf_45 (by decide) (fun c_20 => ?_) (fun c_20 => ?_)
        · have k_21 : (z_19).toInt ≠ (0 : Int) := z_ne c_20
          refine lv_iload hx hb dX12_causeOf_60 (lv_at hl 0 rfl) ?_
          refine lv_bipush (v := 15) hx hb dX12_causeOf_62 (by decide) ?_
          refine lv_icmp_ne (tgt := 116) hx hb dX12_causeOf_64 (by decide) (fun c_22 => ?_) (fun c_22 => ?_)
          · have k_23 : (z_19).toInt ≠ (15 : Int) := z_ne c_22
            refine lv_iload hx hb dX12_causeOf_116 (lv_at hl 0 rfl) ?_
            refine lv_bipush (v := 14) hx hb dX12_causeOf_118 (by decide) ?_
            refine lv_icmp_ne (tgt := 139) hx hb dX12_causeOf_120 (by decide) (fun c_24 => ?_) (fun c_24 => ?_)
            · have k_25 : (z_19).toInt ≠ (14 : Int) := z_ne c_24
              refine lv_iload hx hb dX12_causeOf_139 (lv_at hl 0 rfl) ?_
              refine lv_bipush (v := 11) hx hb dX12_causeOf_141 (by decide) ?_
              refine lv_icmp_ne (tgt := 175) hx hb dX12_causeOf_143 (by decide) (fun c_26 => ?_) (fun c_26 => ?_)
              · have k_27 : (z_19).toInt ≠ (11 : Int) := z_ne c_26
                refine lv_iload hx hb dX12_causeOf_175 (lv_at hl 0 rfl) ?_
                refine lv_aload_n hx hb dX12_causeOf_177 rfl (lv_at hl 4 rfl) ?_
                refine va_get (D := (dC, dI)) (ci := 12) (v := .ref a_wk) (C := RX12) (T := TX12) (N := 70) hx hb hts hiX12 hown hK hP 0 rfl rfl 69 (by decide) w__fieldLink_RX12_141_ShellHeapModel_worked_J_ (fun _ h9 => h9) rfl dX12_causeOf_178 ?_
                refine lv_aload_n hx hb dX12_causeOf_181 rfl (lv_at hl 4 rfl) ?_
                refine va_get (D := (dC, dI)) (ci := 12) (v := .ref a_lf) (C := RX12) (T := TX12) (N := 70) hx hb hts hiX12 hown hK hP 0 rfl rfl 53 (by decide) w__fieldLink_RX12_114_ShellHeapModel_left_I_ (fun _ h9 => h9) rfl dX12_causeOf_182 ?_
                refine lv_iload hx hb dX12_causeOf_185 (lv_at hl 1 rfl) ?_
                refine va_iald hx hb hK hP 26 25 rfl rfl (z_vpin (by omega) (by omega)) dX12_causeOf_187 ?_
                refine lv_topi (fun z_28 ez_28 => ?_)
                have kxz_28 : (z_28).toInt = (fa_lf (z_18 : Int32).toNatClampNeg).toInt := by rw [ez_28]
                refine va_lald hx hb hK hP 22 21 rfl rfl (z_vpin (by omega) (by omega)) dX12_causeOf_188 ?_
                refine lv_topl (fun z_29 ez_29 => ?_)
                refine lv_aload_n hx hb dX12_causeOf_189 rfl (lv_at hl 4 rfl) ?_
                refine va_get (D := (dC, dI)) (ci := 12) (v := .ref a_wk) (C := RX12) (T := TX12) (N := 70) hx hb hts hiX12 hown hK hP 0 rfl rfl 69 (by decide) w__fieldLink_RX12_141_ShellHeapModel_worked_J_ (fun _ h9 => h9) rfl dX12_causeOf_190 ?_
                refine lv_aload_n hx hb dX12_causeOf_193 rfl (lv_at hl 4 rfl) ?_
                refine va_get (D := (dC, dI)) (ci := 12) (v := .ref a_rt) (C := RX12) (T := TX12) (N := 70) hx hb hts hiX12 hown hK hP 0 rfl rfl 54 (by decide) w__fieldLink_RX12_117_ShellHeapModel_right_I_ (fun _ h9 => h9) rfl dX12_causeOf_194 ?_
                refine lv_iload hx hb dX12_causeOf_197 (lv_at hl 1 rfl) ?_
                refine va_iald hx hb hK hP 27 26 rfl rfl (z_vpin (by omega) (by omega)) dX12_causeOf_199 ?_
                refine lv_topi (fun z_30 ez_30 => ?_)
                have kxz_30 : (z_30).toInt = (fa_rt (z_18 : Int32).toNatClampNeg).toInt := by rw [ez_30]
                refine va_lald hx hb hK hP 22 21 rfl rfl (z_vpin (by omega) (by omega)) dX12_causeOf_200 ?_
                refine lv_topl (fun z_31 ez_31 => ?_)
                obtain ⟨hPc, hDc⟩ := z_sub2 (ws' := []) hP hD [] (by decide) rfl
                have hKc := hK.sub (tys' := []) [] rfl
                have hFc := va_free (ws := []) (wc := []) (z_D0 _) hS hA [] rfl
                refine va_calll (va_runS (As := [.int z_19, .long z_29, .long z_31]) (rest := []) ⟨hx, hb, hml, hown, hts⟩ (s_X12_made l dC dI H.size z_19 z_29 z_31) (va_cwS 3 hts gw_s_X12_causeOf_s_X12_made_422 rfl rfl rfl (by decide +kernel) ⟨Nat.le_of_ble_eq_true rfl, Nat.le_of_ble_eq_true rfl⟩) ⟨z_blind, z_pre hPc hKc hDc⟩ rfl rfl hl.1 rfl (lv_room (Nat.le_of_ble_eq_true rfl)) dX12_causeOf_201 ⟨Nat.le_of_ble_eq_true rfl, Nat.le_of_ble_eq_true rfl⟩) hS (fun q _ h => hFc q h) hFc (fun r_33 u t H_32 locs ht hvm hw_34 hB hz1 hk1 hS => ?_)
                replace hP := z_pure hP hk1
                clear hPc hDc hKc
                refine lv_lstore_n (lv' := [(3, .long r_33), (7, .int z_19), (6, .int z_18), (5, .int i_5), (0, .ref h0), (1, .int p1), (2, .int p2)]) hx hb dX12_causeOf_204 rfl hl (by decide) rfl (fun ls hl => ?_)
                refine lv_lload_n hx hb dX12_causeOf_205 rfl (lv_at hl 0 rfl) ?_
                refine lv_ldc2 (v := (-9223372036854775808)) hx hb hown w__constantLong_RX12_396_9223372036854775808_ dX12_causeOf_206 ?_
                refine W.lcmp hx hb dX12_causeOf_209 ?_
                refine lv_topi (fun z_35 ez_35 => ?_)
                have kz_35 : ((z_35).toInt = (1 : Int) ∧ (r_33).toInt > (-9223372036854775808 : Int)) ∨ ((z_35).toInt = (0 : Int) ∧ (r_33).toInt = (-9223372036854775808 : Int)) ∨ ((z_35).toInt = (-1 : Int) ∧ (r_33).toInt < (-9223372036854775808 : Int)) := z_lcmp ez_35
                refine lv_if_ne (tgt := 217) hx hb dX12_causeOf_210 (by decide) (fun c_36 => ?_) (fun c_36 => ?_)
                · have k_37 : (z_35).toInt ≠ (0 : Int) := z_ne c_36
                  refine lv_aload_n hx hb dX12_causeOf_217 rfl (lv_at hl 4 rfl) ?_
                  refine va_get (D := (dC, dI)) (ci := 12) (v := .ref a_wk) (C := RX12) (T := TX12) (N := 70) hx hb hts hiX12 hown hK hP 0 rfl rfl 69 (by decide) w__fieldLink_RX12_141_ShellHeapModel_worked_J_ (fun _ h9 => h9) rfl dX12_causeOf_218 ?_
                  refine lv_iload hx hb dX12_causeOf_221 (lv_at hl 2 rfl) ?_
                  refine lv_lload_n hx hb dX12_causeOf_223 rfl (lv_at hl 0 rfl) ?_
                  refine va_last hx hb hK hP hD hS 22 21 rfl rfl (z_vpin (by omega) (by omega)) dX12_causeOf_224 (fun H_38 locs hP hD hS => ?_)
                  obtain ⟨hP, hD⟩ := z_s_22 hP hD
                  generalize (vp_updL f_10 (z_18 : Int32).toNatClampNeg r_33) = f_39 at hP hD
                  obtain ⟨z_40, ez_40⟩ : ∃ y : Int32, y = i_5 + 1 := ⟨_, rfl⟩
                  have kz_40 : (z_40).toInt = (i_5).toInt + (1 : Int) := by rw [ez_40]; exact z_add (b := 1) rfl rfl (z_al hF_11.1 (by decide)) (z_ah hF_11.2 (by decide))
                  refine lv_iinc (v := z_40) (lv' := [(5, .int z_40), (3, .long r_33), (7, .int z_19), (6, .int z_18), (0, .ref h0), (1, .int p1), (2, .int p2)]) hx hb dX12_causeOf_225 hl (k := 3) rfl (by rw [ez_40]; rfl) (by decide) rfl (fun ls hl => ?_)
                  refine lv_goto (tgt := 7) hx hb dX12_causeOf_228 (by decide) ?_
                  exact ih_3 r_33 z_40 v_6 f_7 f_8 f_9 f_39 _ _ _ (show (97 - (z_40).toInt).toNat < n_2 by omega) (show ((0 : Int) ≤ (z_40).toInt ∧ (z_40).toInt ≤ (96 : Int)) by omega) hP hD hS (lv_sub hl [0, 1, 4, 5, 6] rfl)
                · have k_41 : (z_35).toInt = (0 : Int) := z_eq c_36
                  obtain rfl : z_35 = 0 := z_eq' (show (z_35).toInt = (0 : Int) by omega)
                  refine lv_ldc2 (v := (-9223372036854775808)) hx hb hown w__constantLong_RX12_396_9223372036854775808_ dX12_causeOf_213 ?_
                  refine z_backQ hQQ ?_
                  have hP9 := hP
                  have hD9 := hD
                  have hK9 := hK.sub (tys' := []) [] rfl
                  refine W.widen (k := 0) (n := 0) (Nat.le_of_ble_eq_true rfl) (Nat.le_of_ble_eq_true rfl) ?_
                  exact W.lret (v := (-9223372036854775808)) hx hb hr (fun t ht hW => ⟨⟨(-9223372036854775808), (), rfl, trivial, ⟨v_6, f_7, f_8, f_9, f_10, by rw [ht]; exact hP9, va_K.moved hW.alike hK9, hD9⟩⟩, hS.F ht⟩) hS.2.2 dX12_causeOf_216
              · have k_43 : (z_19).toInt = (11 : Int) := z_eq c_26
                obtain rfl : z_19 = 11 := z_eq' (show (z_19).toInt = (11 : Int) by omega)
                refine lv_aload_n hx hb dX12_causeOf_146 rfl (lv_at hl 4 rfl) ?_
                refine va_get (D := (dC, dI)) (ci := 12) (v := .ref a_wk) (C := RX12) (T := TX12) (N := 70) hx hb hts hiX12 hown hK hP 0 rfl rfl 69 (by decide) w__fieldLink_RX12_141_ShellHeapModel_worked_J_ (fun _ h9 => h9) rfl dX12_causeOf_147 ?_
                refine lv_aload_n hx hb dX12_causeOf_150 rfl (lv_at hl 4 rfl) ?_
                refine va_get (D := (dC, dI)) (ci := 12) (v := .ref a_lf) (C := RX12) (T := TX12) (N := 70) hx hb hts hiX12 hown hK hP 0 rfl rfl 53 (by decide) w__fieldLink_RX12_114_ShellHeapModel_left_I_ (fun _ h9 => h9) rfl dX12_causeOf_151 ?_
                refine lv_iload hx hb dX12_causeOf_154 (lv_at hl 1 rfl) ?_
                refine va_iald hx hb hK hP 26 25 rfl rfl (z_vpin (by omega) (by omega)) dX12_causeOf_156 ?_
                refine lv_topi (fun z_45 ez_45 => ?_)
                have kxz_45 : (z_45).toInt = (fa_lf (z_18 : Int32).toNatClampNeg).toInt := by rw [ez_45]
                refine va_lald hx hb hK hP 22 21 rfl rfl (z_vpin (by omega) (by omega)) dX12_causeOf_157 ?_
                refine lv_topl (fun z_46 ez_46 => ?_)
                refine lv_lconst (v := 0) hx hb dX12_causeOf_158 (by decide) ?_
                refine W.lcmp hx hb dX12_causeOf_159 ?_
                refine lv_topi (fun z_47 ez_47 => ?_)
                have kz_47 : ((z_47).toInt = (1 : Int) ∧ (z_46).toInt > (0 : Int)) ∨ ((z_47).toInt = (0 : Int) ∧ (z_46).toInt = (0 : Int)) ∨ ((z_47).toInt = (-1 : Int) ∧ (z_46).toInt < (0 : Int)) := z_lcmp ez_47
                refine lv_if_ne (tgt := 167) hx hb dX12_causeOf_160 (by decide) (fun c_48 => ?_) (fun c_48 => ?_)
                · have k_49 : (z_47).toInt ≠ (0 : Int) := z_ne c_48
                  refine lv_iconst (v := 0) hx hb dX12_causeOf_167 (by decide) ?_
                  obtain ⟨hPc, hDc⟩ := z_sub2 (ws' := []) hP hD [] (by decide) rfl
                  have hKc := hK.sub (tys' := []) [] rfl
                  have hFc := va_free (ws := []) (wc := []) (z_D0 _) hS hA [] rfl
                  refine va_calll (va_runS (As := [.int 0]) (rest := []) ⟨hx, hb, hml, hown, hts⟩ (s_X12_truth l dC dI H.size 0) (va_cwS 1 hts gw_s_X12_causeOf_s_X12_truth_409 rfl rfl rfl (by decide +kernel) ⟨Nat.le_of_ble_eq_true rfl, Nat.le_of_ble_eq_true rfl⟩) ⟨z_blind, z_pre hPc hKc hDc⟩ rfl rfl hl.1 rfl (lv_room (Nat.le_of_ble_eq_true rfl)) dX12_causeOf_168 ⟨Nat.le_of_ble_eq_true rfl, Nat.le_of_ble_eq_true rfl⟩) hS (fun q _ h => hFc q h) hFc (fun r_51 u t H_50 locs ht hvm hw_52 hB hz1 hk1 hS => ?_)
                  replace hP := z_pure hP hk1
                  clear hPc hDc hKc
                  refine lv_lstore_n (lv' := [(3, .long r_51), (7, .int 11), (6, .int z_18), (5, .int i_5), (0, .ref h0), (1, .int p1), (2, .int p2)]) hx hb dX12_causeOf_171 rfl hl (by decide) rfl (fun ls hl => ?_)
                  refine lv_goto (tgt := 205) hx hb dX12_causeOf_172 (by decide) ?_
                  refine lv_lload_n hx hb dX12_causeOf_205 rfl (lv_at hl 0 rfl) ?_
                  refine lv_ldc2 (v := (-9223372036854775808)) hx hb hown w__constantLong_RX12_396_9223372036854775808_ dX12_causeOf_206 ?_
                  refine W.lcmp hx hb dX12_causeOf_209 ?_
                  refine lv_topi (fun z_53 ez_53 => ?_)
                  have kz_53 : ((z_53).toInt = (1 : Int) ∧ (r_51).toInt > (-9223372036854775808 : Int)) ∨ ((z_53).toInt = (0 : Int) ∧ (r_51).toInt = (-9223372036854775808 : Int)) ∨ ((z_53).toInt = (-1 : Int) ∧ (r_51).toInt < (-9223372036854775808 : Int)) := z_lcmp ez_53
                  refine lv_if_ne (tgt := 217) hx hb dX12_causeOf_210 (by decide) (fun c_54 => ?_) (fun c_54 => ?_)
                  · have k_55 : (z_53).toInt ≠ (0 : Int) := z_ne c_54
                    refine lv_aload_n hx hb dX12_causeOf_217 rfl (lv_at hl 4 rfl) ?_
                    refine va_get (D := (dC, dI)) (ci := 12) (v := .ref a_wk) (C := RX12) (T := TX12) (N := 70) hx hb hts hiX12 hown hK hP 0 rfl rfl 69 (by decide) w__fieldLink_RX12_141_ShellHeapModel_worked_J_ (fun _ h9 => h9) rfl dX12_causeOf_218 ?_
                    refine lv_iload hx hb dX12_causeOf_221 (lv_at hl 2 rfl) ?_
                    refine lv_lload_n hx hb dX12_causeOf_223 rfl (lv_at hl 0 rfl) ?_
                    refine va_last hx hb hK hP hD hS 22 21 rfl rfl (z_vpin (by omega) (by omega)) dX12_causeOf_224 (fun H_56 locs hP hD hS => ?_)
                    obtain ⟨hP, hD⟩ := z_s_22 hP hD
                    generalize (vp_updL f_10 (z_18 : Int32).toNatClampNeg r_51) = f_57 at hP hD
                    obtain ⟨z_58, ez_58⟩ : ∃ y : Int32, y = i_5 + 1 := ⟨_, rfl⟩
                    have kz_58 : (z_58).toInt = (i_5).toInt + (1 : Int) := by rw [ez_58]; exact z_add (b := 1) rfl rfl (z_al hF_11.1 (by decide)) (z_ah hF_11.2 (by decide))
                    refine lv_iinc (v := z_58) (lv' := [(5, .int z_58), (3, .long r_51), (7, .int 11), (6, .int z_18), (0, .ref h0), (1, .int p1), (2, .int p2)]) hx hb dX12_causeOf_225 hl (k := 3) rfl (by rw [ez_58]; rfl) (by decide) rfl (fun ls hl => ?_)
                    refine lv_goto (tgt := 7) hx hb dX12_causeOf_228 (by decide) ?_
                    exact ih_3 r_51 z_58 v_6 f_7 f_8 f_9 f_57 _ _ _ (show (97 - (z_58).toInt).toNat < n_2 by omega) (show ((0 : Int) ≤ (z_58).toInt ∧ (z_58).toInt ≤ (96 : Int)) by omega) hP hD hS (lv_sub hl [0, 1, 4, 5, 6] rfl)
                  · have k_59 : (z_53).toInt = (0 : Int) := z_eq c_54
                    obtain rfl : z_53 = 0 := z_eq' (show (z_53).toInt = (0 : Int) by omega)
                    refine lv_ldc2 (v := (-9223372036854775808)) hx hb hown w__constantLong_RX12_396_9223372036854775808_ dX12_causeOf_213 ?_
                    refine z_backQ hQQ ?_
                    have hP9 := hP
                    have hD9 := hD
                    have hK9 := hK.sub (tys' := []) [] rfl
                    refine W.widen (k := 0) (n := 0) (Nat.le_of_ble_eq_true rfl) (Nat.le_of_ble_eq_true rfl) ?_
                    exact W.lret (v := (-9223372036854775808)) hx hb hr (fun t ht hW => ⟨⟨(-9223372036854775808), (), rfl, trivial, ⟨v_6, f_7, f_8, f_9, f_10, by rw [ht]; exact hP9, va_K.moved hW.alike hK9, hD9⟩⟩, hS.F ht⟩) hS.2.2 dX12_causeOf_216
                · have k_61 : (z_47).toInt = (0 : Int) := z_eq c_48
                  obtain rfl : z_47 = 0 := z_eq' (show (z_47).toInt = (0 : Int) by omega)
                  refine lv_iconst (v := 1) hx hb dX12_causeOf_163 (by decide) ?_
                  refine lv_goto (tgt := 168) hx hb dX12_causeOf_164 (by decide) ?_
                  obtain ⟨hPc, hDc⟩ := z_sub2 (ws' := []) hP hD [] (by decide) rfl
                  have hKc := hK.sub (tys' := []) [] rfl
                  have hFc := va_free (ws := []) (wc := []) (z_D0 _) hS hA [] rfl
                  refine va_calll (va_runS (As := [.int 1]) (rest := []) ⟨hx, hb, hml, hown, hts⟩ (s_X12_truth l dC dI H.size 1) (va_cwS 1 hts gw_s_X12_causeOf_s_X12_truth_409 rfl rfl rfl (by decide +kernel) ⟨Nat.le_of_ble_eq_true rfl, Nat.le_of_ble_eq_true rfl⟩) ⟨z_blind, z_pre hPc hKc hDc⟩ rfl rfl hl.1 rfl (lv_room (Nat.le_of_ble_eq_true rfl)) dX12_causeOf_168 ⟨Nat.le_of_ble_eq_true rfl, Nat.le_of_ble_eq_true rfl⟩) hS (fun q _ h => hFc q h) hFc (fun r_64 u t H_63 locs ht hvm hw_65 hB hz1 hk1 hS => ?_)
                  replace hP := z_pure hP hk1
                  clear hPc hDc hKc
                  refine lv_lstore_n (lv' := [(3, .long r_64), (7, .int 11), (6, .int z_18), (5, .int i_5), (0, .ref h0), (1, .int p1), (2, .int p2)]) hx hb dX12_causeOf_171 rfl hl (by decide) rfl (fun ls hl => ?_)
                  refine lv_goto (tgt := 205) hx hb dX12_causeOf_172 (by decide) ?_
                  refine lv_lload_n hx hb dX12_causeOf_205 rfl (lv_at hl 0 rfl) ?_
                  refine lv_ldc2 (v := (-9223372036854775808)) hx hb hown w__constantLong_RX12_396_9223372036854775808_ dX12_causeOf_206 ?_
                  refine W.lcmp hx hb dX12_causeOf_209 ?_
                  refine lv_topi (fun z_66 ez_66 => ?_)
                  have kz_66 : ((z_66).toInt = (1 : Int) ∧ (r_64).toInt > (-9223372036854775808 : Int)) ∨ ((z_66).toInt = (0 : Int) ∧ (r_64).toInt = (-9223372036854775808 : Int)) ∨ ((z_66).toInt = (-1 : Int) ∧ (r_64).toInt < (-9223372036854775808 : Int)) := z_lcmp ez_66
                  refine lv_if_ne (tgt := 217) hx hb dX12_causeOf_210 (by decide) (fun c_67 => ?_) (fun c_67 => ?_)
                  · have k_68 : (z_66).toInt ≠ (0 : Int) := z_ne c_67
                    refine lv_aload_n hx hb dX12_causeOf_217 rfl (lv_at hl 4 rfl) ?_
                    refine va_get (D := (dC, dI)) (ci := 12) (v := .ref a_wk) (C := RX12) (T := TX12) (N := 70) hx hb hts hiX12 hown hK hP 0 rfl rfl 69 (by decide) w__fieldLink_RX12_141_ShellHeapModel_worked_J_ (fun _ h9 => h9) rfl dX12_causeOf_218 ?_
                    refine lv_iload hx hb dX12_causeOf_221 (lv_at hl 2 rfl) ?_
                    refine lv_lload_n hx hb dX12_causeOf_223 rfl (lv_at hl 0 rfl) ?_
                    refine va_last hx hb hK hP hD hS 22 21 rfl rfl (z_vpin (by omega) (by omega)) dX12_causeOf_224 (fun H_69 locs hP hD hS => ?_)
                    obtain ⟨hP, hD⟩ := z_s_22 hP hD
                    generalize (vp_updL f_10 (z_18 : Int32).toNatClampNeg r_64) = f_70 at hP hD
                    obtain ⟨z_71, ez_71⟩ : ∃ y : Int32, y = i_5 + 1 := ⟨_, rfl⟩
                    have kz_71 : (z_71).toInt = (i_5).toInt + (1 : Int) := by rw [ez_71]; exact z_add (b := 1) rfl rfl (z_al hF_11.1 (by decide)) (z_ah hF_11.2 (by decide))
                    refine lv_iinc (v := z_71) (lv' := [(5, .int z_71), (3, .long r_64), (7, .int 11), (6, .int z_18), (0, .ref h0), (1, .int p1), (2, .int p2)]) hx hb dX12_causeOf_225 hl (k := 3) rfl (by rw [ez_71]; rfl) (by decide) rfl (fun ls hl => ?_)
                    refine lv_goto (tgt := 7) hx hb dX12_causeOf_228 (by decide) ?_
                    exact ih_3 r_64 z_71 v_6 f_7 f_8 f_9 f_70 _ _ _ (show (97 - (z_71).toInt).toNat < n_2 by omega) (show ((0 : Int) ≤ (z_71).toInt ∧ (z_71).toInt ≤ (96 : Int)) by omega) hP hD hS (lv_sub hl [0, 1, 4, 5, 6] rfl)
                  · have k_72 : (z_66).toInt = (0 : Int) := z_eq c_67
                    obtain rfl : z_66 = 0 := z_eq' (show (z_66).toInt = (0 : Int) by omega)
                    refine lv_ldc2 (v := (-9223372036854775808)) hx hb hown w__constantLong_RX12_396_9223372036854775808_ dX12_causeOf_213 ?_
                    refine z_backQ hQQ ?_
                    have hP9 := hP
                    have hD9 := hD
                    have hK9 := hK.sub (tys' := []) [] rfl
                    refine W.widen (k := 0) (n := 0) (Nat.le_of_ble_eq_true rfl) (Nat.le_of_ble_eq_true rfl) ?_
                    exact W.lret (v := (-9223372036854775808)) hx hb hr (fun t ht hW => ⟨⟨(-9223372036854775808), (), rfl, trivial, ⟨v_6, f_7, f_8, f_9, f_10, by rw [ht]; exact hP9, va_K.moved hW.alike hK9, hD9⟩⟩, hS.F ht⟩) hS.2.2 dX12_causeOf_216
            · have k_74 : (z_19).toInt = (14 : Int) := z_eq c_24
              obtain rfl : z_19 = 14 := z_eq' (show (z_19).toInt = (14 : Int) by omega)
              refine lv_aload_n hx hb dX12_causeOf_123 rfl (lv_at hl 4 rfl) ?_
              refine va_get (D := (dC, dI)) (ci := 12) (v := .ref a_wk) (C := RX12) (T := TX12) (N := 70) hx hb hts hiX12 hown hK hP 0 rfl rfl 69 (by decide) w__fieldLink_RX12_141_ShellHeapModel_worked_J_ (fun _ h9 => h9) rfl dX12_causeOf_124 ?_
              refine lv_aload_n hx hb dX12_causeOf_127 rfl (lv_at hl 4 rfl) ?_
              refine va_get (D := (dC, dI)) (ci := 12) (v := .ref a_lf) (C := RX12) (T := TX12) (N := 70) hx hb hts hiX12 hown hK hP 0 rfl rfl 53 (by decide) w__fieldLink_RX12_114_ShellHeapModel_left_I_ (fun _ h9 => h9) rfl dX12_causeOf_128 ?_
              refine lv_iload hx hb dX12_causeOf_131 (lv_at hl 1 rfl) ?_
              refine va_iald hx hb hK hP 26 25 rfl rfl (z_vpin (by omega) (by omega)) dX12_causeOf_133 ?_
              refine lv_topi (fun z_76 ez_76 => ?_)
              have kxz_76 : (z_76).toInt = (fa_lf (z_18 : Int32).toNatClampNeg).toInt := by rw [ez_76]
              refine va_lald hx hb hK hP 22 21 rfl rfl (z_vpin (by omega) (by omega)) dX12_causeOf_134 ?_
              refine lv_topl (fun z_77 ez_77 => ?_)
              refine lv_lstore_n (lv' := [(3, .long z_77), (7, .int 14), (6, .int z_18), (5, .int i_5), (0, .ref h0), (1, .int p1), (2, .int p2)]) hx hb dX12_causeOf_135 rfl hl (by decide) rfl (fun ls hl => ?_)
              refine lv_goto (tgt := 205) hx hb dX12_causeOf_136 (by decide) ?_
              refine lv_lload_n hx hb dX12_causeOf_205 rfl (lv_at hl 0 rfl) ?_
              refine lv_ldc2 (v := (-9223372036854775808)) hx hb hown w__constantLong_RX12_396_9223372036854775808_ dX12_causeOf_206 ?_
              refine W.lcmp hx hb dX12_causeOf_209 ?_
              refine lv_topi (fun z_78 ez_78 => ?_)
              have kz_78 : ((z_78).toInt = (1 : Int) ∧ (z_77).toInt > (-9223372036854775808 : Int)) ∨ ((z_78).toInt = (0 : Int) ∧ (z_77).toInt = (-9223372036854775808 : Int)) ∨ ((z_78).toInt = (-1 : Int) ∧ (z_77).toInt < (-9223372036854775808 : Int)) := z_lcmp ez_78
              refine lv_if_ne (tgt := 217) hx hb dX12_causeOf_210 (by decide) (fun c_79 => ?_) (fun c_79 => ?_)
              · have k_80 : (z_78).toInt ≠ (0 : Int) := z_ne c_79
                refine lv_aload_n hx hb dX12_causeOf_217 rfl (lv_at hl 4 rfl) ?_
                refine va_get (D := (dC, dI)) (ci := 12) (v := .ref a_wk) (C := RX12) (T := TX12) (N := 70) hx hb hts hiX12 hown hK hP 0 rfl rfl 69 (by decide) w__fieldLink_RX12_141_ShellHeapModel_worked_J_ (fun _ h9 => h9) rfl dX12_causeOf_218 ?_
                refine lv_iload hx hb dX12_causeOf_221 (lv_at hl 2 rfl) ?_
                refine lv_lload_n hx hb dX12_causeOf_223 rfl (lv_at hl 0 rfl) ?_
                refine va_last hx hb hK hP hD hS 22 21 rfl rfl (z_vpin (by omega) (by omega)) dX12_causeOf_224 (fun H_81 locs hP hD hS => ?_)
                obtain ⟨hP, hD⟩ := z_s_22 hP hD
                generalize (vp_updL f_10 (z_18 : Int32).toNatClampNeg z_77) = f_82 at hP hD
                obtain ⟨z_83, ez_83⟩ : ∃ y : Int32, y = i_5 + 1 := ⟨_, rfl⟩
                have kz_83 : (z_83).toInt = (i_5).toInt + (1 : Int) := by rw [ez_83]; exact z_add (b := 1) rfl rfl (z_al hF_11.1 (by decide)) (z_ah hF_11.2 (by decide))
                refine lv_iinc (v := z_83) (lv' := [(5, .int z_83), (3, .long z_77), (7, .int 14), (6, .int z_18), (0, .ref h0), (1, .int p1), (2, .int p2)]) hx hb dX12_causeOf_225 hl (k := 3) rfl (by rw [ez_83]; rfl) (by decide) rfl (fun ls hl => ?_)
                refine lv_goto (tgt := 7) hx hb dX12_causeOf_228 (by decide) ?_
                exact ih_3 z_77 z_83 v_6 f_7 f_8 f_9 f_82 _ _ _ (show (97 - (z_83).toInt).toNat < n_2 by omega) (show ((0 : Int) ≤ (z_83).toInt ∧ (z_83).toInt ≤ (96 : Int)) by omega) hP hD hS (lv_sub hl [0, 1, 4, 5, 6] rfl)
              · have k_84 : (z_78).toInt = (0 : Int) := z_eq c_79
                obtain rfl : z_78 = 0 := z_eq' (show (z_78).toInt = (0 : Int) by omega)
                refine lv_ldc2 (v := (-9223372036854775808)) hx hb hown w__constantLong_RX12_396_9223372036854775808_ dX12_causeOf_213 ?_
                refine z_backQ hQQ ?_
                have hP9 := hP
                have hD9 := hD
                have hK9 := hK.sub (tys' := []) [] rfl
                refine W.widen (k := 0) (n := 0) (Nat.le_of_ble_eq_true rfl) (Nat.le_of_ble_eq_true rfl) ?_
                exact W.lret (v := (-9223372036854775808)) hx hb hr (fun t ht hW => ⟨⟨(-9223372036854775808), (), rfl, trivial, ⟨v_6, f_7, f_8, f_9, f_10, by rw [ht]; exact hP9, va_K.moved hW.alike hK9, hD9⟩⟩, hS.F ht⟩) hS.2.2 dX12_causeOf_216
          · have k_86 : (z_19).toInt = (15 : Int) := z_eq c_22
            obtain rfl : z_19 = 15 := z_eq' (show (z_19).toInt = (15 : Int) by omega)
            refine lv_aload_n hx hb dX12_causeOf_67 rfl (lv_at hl 4 rfl) ?_
            refine va_get (D := (dC, dI)) (ci := 12) (v := .ref a_ah) (C := RX12) (T := TX12) (N := 70) hx hb hts hiX12 hown hK hP 0 rfl rfl 56 (by decide) w__fieldLink_RX12_123_ShellHeapModel_ahead_Z_ (fun _ h9 => h9) rfl dX12_causeOf_68 ?_
            refine lv_iload hx hb dX12_causeOf_71 (lv_at hl 1 rfl) ?_
            refine va_zald hx hb hK hP 29 28 rfl rfl (z_vpin (by omega) (by omega)) dX12_causeOf_73 ?_
            refine lv_topi (fun z_88 ez_88 => ?_)
            refine lv_if_eq (tgt := 85) hx hb dX12_causeOf_74 (by decide) (fun c_89 => ?_) (fun c_89 => ?_)
            · have k_90 : (z_88).toInt = (0 : Int) := z_eq c_89
              obtain rfl : z_88 = 0 := z_eq' (show (z_88).toInt = (0 : Int) by omega)
              refine lv_iload_n hx hb dX12_causeOf_85 rfl (lv_at hl 6 rfl) ?_
              refine lv_istore (lv' := [(8, .int p2), (7, .int 15), (6, .int z_18), (5, .int i_5), (3, .long v_4), (0, .ref h0), (1, .int p1), (2, .int p2)]) hx hb dX12_causeOf_86 hl (by decide) rfl (fun ls hl => ?_)
              refine lv_iload hx hb dX12_causeOf_88 (lv_at hl 0 rfl) ?_
              refine lv_if_ge (tgt := 99) hx hb dX12_causeOf_90 (by decide) (fun _ => ?_) (fun c_92 => ?_)
              rotate_left
              · exfalso
                have k_93 : (0 : Int) > (p2).toInt := z_nle c_92
                omega
              refine lv_aload_n hx hb dX12_causeOf_99 rfl (lv_at hl 5 rfl) ?_
              refine lv_iload hx hb dX12_causeOf_100 (lv_at hl 0 rfl) ?_
              refine lv_aload_n hx hb dX12_causeOf_102 rfl (lv_at hl 5 rfl) ?_
              refine va_get (D := (dC, dI)) (ci := 12) (v := .ref a_am) (C := RX12) (T := TX12) (N := 70) hx hb hts hiX12 hown hK hP 0 rfl rfl 55 (by decide) w__fieldLink_RX12_120_ShellHeapModel_amount_I_ (fun _ h9 => h9) rfl dX12_causeOf_103 ?_
              refine lv_iload hx hb dX12_causeOf_106 (lv_at hl 2 rfl) ?_
              refine va_iald hx hb hK hP 28 27 rfl rfl (z_vpin (by omega) (by omega)) dX12_causeOf_108 ?_
              refine lv_topi (fun z_94 ez_94 => ?_)
              obtain ⟨hPc, hDc, hFc⟩ := z_sub3 (ws' := [(h0, .inr (12, [h0_0, h0_1, h0_2, .int ml, .int mn, .ref hs, .ref ha, .ref hb9, h0_8, .ref hct, .ref hfo, .ref hbd, .ref hlt, .ref hrk, h0_14, h0_15, .int mq, .int mw, .int mh, .int mc, .ref a_cx, .ref a_cy, .ref a_th, .int mk, .ref hme, .ref hv, .ref hkp, h0_27, h0_28, h0_29, h0_30, h0_31, h0_32, h0_33, h0_34, .ref a_rs, .ref a_rg, .ref a_td, .ref a_pu, .long v_6, .int ms, .ref a_so, .ref a_sh, .ref a_rw, .int mca, h0_45, .int mkn, h0_47, h0_48, h0_49, .ref a_cf, .ref a_cm, .ref a_kt, .ref a_lf, .ref a_rt, .ref a_am, .ref a_ah, .ref a_gb, h0_58, h0_59, h0_60, h0_61, h0_62, h0_63, h0_64, h0_65, h0_66, h0_67, h0_68, .ref a_wk])), (hct, .inl (chct, 80, .inl fhct)), (hs, .inl (chs, 80, .inl fhs)), (ha, .inl (cha, 80, .inl fha)), (hb9, .inl (chb9, 80, .inl fhb9)), (hbd, .inl (chbd, 12, .inl fhbd)), (hlt, .inl (chlt, 144, .inl fhlt)), (hrk, .inl (chrk, 12, .inl fhrk)), (a_cx, .inl (ca_cx, 10, .inl fa_cx)), (a_cy, .inl (ca_cy, 10, .inl fa_cy)), (a_th, .inl (ca_th, 120, .inl fa_th)), (hfo, .inl (chfo, 11520, .inl fhfo)), (hme, .inl (chme, 6, .inl fhme)), (hv, .inl (chv, 6, .inl fhv)), (hkp, .inl (chkp, 24, .inl fhkp)), (a_rs, .inl (ca_rs, 48, .inl fa_rs)), (a_rg, .inl (ca_rg, 144, .inl fa_rg)), (a_td, .inl (ca_td, 4, .inl f_7)), (a_pu, .inl (ca_pu, 4, .inl f_8)), (a_so, .inl (ca_so, 200, .inl fa_so)), (a_sh, .inl (ca_sh, 600, .inl fa_sh)), (a_rw, .inl (ca_rw, 200, .inl f_9))]) hP hD hS hA [0, 1, 2, 3, 4, 5, 6, 7, 8, 9, 10, 11, 12, 13, 14, 15, 16, 17, 18, 19, 20, 21] (by decide) rfl
              have hKc := hK.sub (tys' := [(chct, .boolean), (chs, .int), (cha, .int), (chb9, .int), (chbd, .int), (chlt, .boolean), (chrk, .int), (ca_cx, .int), (ca_cy, .int), (ca_th, .int), (chfo, .int), (chme, .int), (chv, .int), (chkp, .int), (ca_rs, .int), (ca_rg, .int), (ca_td, .int), (ca_pu, .int), (ca_so, .int), (ca_sh, .int), (ca_rw, .int)]) [0, 1, 2, 3, 4, 5, 6, 7, 8, 9, 10, 11, 12, 13, 14, 15, 16, 17, 18, 19, 20] rfl
              refine va_calll (va_runV (As := [.int p2, .int z_94]) (rest := []) ⟨hx, hb, hml, hown, hts⟩ (s_X12_nameValue l dC dI H.size h0 p2 z_94 h0_0 h0_1 h0_2 ml mn hs ha hb9 h0_8 hct hfo hbd hlt hrk h0_14 h0_15 mq mw mh mc a_cx a_cy a_th mk hme hv hkp h0_27 h0_28 h0_29 h0_30 h0_31 h0_32 h0_33 h0_34 a_rs a_rg a_td a_pu v_6 ms a_so a_sh a_rw (.int mca) h0_45 (.int mkn) h0_47 h0_48 h0_49 (.ref a_cf) (.ref a_cm) (.ref a_kt) (.ref a_lf) (.ref a_rt) (.ref a_am) (.ref a_ah) (.ref a_gb) h0_58 h0_59 h0_60 h0_61 h0_62 h0_63 h0_64 h0_65 h0_66 h0_67 h0_68 (.ref a_wk) chct fhct chs fhs cha fha chb9 fhb9 chbd fhbd chlt fhlt chrk fhrk ca_cx fa_cx ca_cy fa_cy ca_th fa_th chfo fhfo chme fhme chv fhv chkp fhkp ca_rs fa_rs ca_rg fa_rg ca_td f_7 ca_pu f_8 ca_so fa_so ca_sh fa_sh ca_rw f_9 hB_mn hB_ml hB_mq hB_mw hB_mh hB_mc hB_mk hB_ms hB_p2 hI_ha hI_hbd hI_hkp hI_a_so hR) (cwV 2 hts gw_s_X12_causeOf_s_X12_nameValue_419 rfl rfl rfl (by decide +kernel) ⟨Nat.le_of_ble_eq_true rfl, Nat.le_of_ble_eq_true rfl⟩) ⟨z_blind, va_recv hKc hPc (ci := 12) (q0 := 0) rfl rfl, z_pre hPc hKc hDc⟩ rfl rfl hl.1 rfl (lv_room (Nat.le_of_ble_eq_true rfl)) dX12_causeOf_109 ⟨Nat.le_of_ble_eq_true rfl, Nat.le_of_ble_eq_true rfl⟩) hS (fun q _ h => hFc q h) hFc (fun r_96 u t H_95 locs ht hvm hw_97 hB hz1 hk1 hS => ?_)
              obtain ⟨n_h0_miss_98, g_a_td_99, g_a_pu_100, g_a_rw_101, hP1, hK1, hD1⟩ := hB
              rw [ht] at hP1
              have hK1 := va_K.moved hvm.symm hK1
              obtain ⟨hP, hD⟩ := z_ap_9 (va_join (wr := [(a_wk, .inl (ca_wk, 96, .inr (.inl f_10))), (a_cf, .inl (ca_cf, 12, .inl fa_cf)), (a_cm, .inl (ca_cm, 12, .inl fa_cm)), (a_kt, .inl (ca_kt, 192, .inl fa_kt)), (a_lf, .inl (ca_lf, 192, .inl fa_lf)), (a_rt, .inl (ca_rt, 192, .inl fa_rt)), (a_am, .inl (ca_am, 192, .inl fa_am)), (a_ah, .inl (ca_ah, 192, .inl fa_ah)), (a_gb, .inl (ca_gb, 192, .inl fa_gb))]) hP hD [0, 1, 2, 3, 4, 5, 6, 7, 8, 9, 10, 11, 12, 13, 14, 15, 16, 17, 18, 19, 20, 21] [22, 23, 24, 25, 26, 27, 28, 29, 30] rfl rfl (by decide) (by decide) hk1 hFc hP1 hD1)
              clear hPc hDc hKc
              refine lv_lstore_n (lv' := [(3, .long r_96), (8, .int p2), (7, .int 15), (6, .int z_18), (5, .int i_5), (0, .ref h0), (1, .int p1), (2, .int p2)]) hx hb dX12_causeOf_112 rfl hl (by decide) rfl (fun ls hl => ?_)
              refine lv_goto (tgt := 205) hx hb dX12_causeOf_113 (by decide) ?_
              refine lv_lload_n hx hb dX12_causeOf_205 rfl (lv_at hl 0 rfl) ?_
              refine lv_ldc2 (v := (-9223372036854775808)) hx hb hown w__constantLong_RX12_396_9223372036854775808_ dX12_causeOf_206 ?_
              refine W.lcmp hx hb dX12_causeOf_209 ?_
              refine lv_topi (fun z_102 ez_102 => ?_)
              have kz_102 : ((z_102).toInt = (1 : Int) ∧ (r_96).toInt > (-9223372036854775808 : Int)) ∨ ((z_102).toInt = (0 : Int) ∧ (r_96).toInt = (-9223372036854775808 : Int)) ∨ ((z_102).toInt = (-1 : Int) ∧ (r_96).toInt < (-9223372036854775808 : Int)) := z_lcmp ez_102
              refine lv_if_ne (tgt := 217) hx hb dX12_causeOf_210 (by decide) (fun c_103 => ?_) (fun c_103 => ?_)
              · have k_104 : (z_102).toInt ≠ (0 : Int) := z_ne c_103
                refine lv_aload_n hx hb dX12_causeOf_217 rfl (lv_at hl 5 rfl) ?_
                refine va_get (D := (dC, dI)) (ci := 12) (v := .ref a_wk) (C := RX12) (T := TX12) (N := 70) hx hb hts hiX12 hown hK hP 9 rfl rfl 69 (by decide) w__fieldLink_RX12_141_ShellHeapModel_worked_J_ (fun _ h9 => h9) rfl dX12_causeOf_218 ?_
                refine lv_iload hx hb dX12_causeOf_221 (lv_at hl 3 rfl) ?_
                refine lv_lload_n hx hb dX12_causeOf_223 rfl (lv_at hl 0 rfl) ?_
                refine va_last hx hb hK hP hD hS 0 21 rfl rfl (z_vpin (by omega) (by omega)) dX12_causeOf_224 (fun H_105 locs hP hD hS => ?_)
                obtain ⟨hP, hD⟩ := z_s_0 hP hD
                generalize (vp_updL f_10 (z_18 : Int32).toNatClampNeg r_96) = f_106 at hP hD
                obtain ⟨z_107, ez_107⟩ : ∃ y : Int32, y = i_5 + 1 := ⟨_, rfl⟩
                have kz_107 : (z_107).toInt = (i_5).toInt + (1 : Int) := by rw [ez_107]; exact z_add (b := 1) rfl rfl (z_al hF_11.1 (by decide)) (z_ah hF_11.2 (by decide))
                refine lv_iinc (v := z_107) (lv' := [(5, .int z_107), (3, .long r_96), (8, .int p2), (7, .int 15), (6, .int z_18), (0, .ref h0), (1, .int p1), (2, .int p2)]) hx hb dX12_causeOf_225 hl (k := 4) rfl (by rw [ez_107]; rfl) (by decide) rfl (fun ls hl => ?_)
                refine lv_goto (tgt := 7) hx hb dX12_causeOf_228 (by decide) ?_
                exact ih_3 r_96 z_107 n_h0_miss_98 g_a_td_99 g_a_pu_100 g_a_rw_101 f_106 _ _ _ (show (97 - (z_107).toInt).toNat < n_2 by omega) (show ((0 : Int) ≤ (z_107).toInt ∧ (z_107).toInt ≤ (96 : Int)) by omega) (hP.sub (ws' := [(h0, .inr (12, [h0_0, h0_1, h0_2, .int ml, .int mn, .ref hs, .ref ha, .ref hb9, h0_8, .ref hct, .ref hfo, .ref hbd, .ref hlt, .ref hrk, h0_14, h0_15, .int mq, .int mw, .int mh, .int mc, .ref a_cx, .ref a_cy, .ref a_th, .int mk, .ref hme, .ref hv, .ref hkp, h0_27, h0_28, h0_29, h0_30, h0_31, h0_32, h0_33, h0_34, .ref a_rs, .ref a_rg, .ref a_td, .ref a_pu, .long n_h0_miss_98, .int ms, .ref a_so, .ref a_sh, .ref a_rw, .int mca, h0_45, .int mkn, h0_47, h0_48, h0_49, .ref a_cf, .ref a_cm, .ref a_kt, .ref a_lf, .ref a_rt, .ref a_am, .ref a_ah, .ref a_gb, h0_58, h0_59, h0_60, h0_61, h0_62, h0_63, h0_64, h0_65, h0_66, h0_67, h0_68, .ref a_wk])), (hct, .inl (chct, 80, .inl fhct)), (hs, .inl (chs, 80, .inl fhs)), (ha, .inl (cha, 80, .inl fha)), (hb9, .inl (chb9, 80, .inl fhb9)), (hbd, .inl (chbd, 12, .inl fhbd)), (hlt, .inl (chlt, 144, .inl fhlt)), (hrk, .inl (chrk, 12, .inl fhrk)), (a_cx, .inl (ca_cx, 10, .inl fa_cx)), (a_cy, .inl (ca_cy, 10, .inl fa_cy)), (a_th, .inl (ca_th, 120, .inl fa_th)), (hfo, .inl (chfo, 11520, .inl fhfo)), (hme, .inl (chme, 6, .inl fhme)), (hv, .inl (chv, 6, .inl fhv)), (hkp, .inl (chkp, 24, .inl fhkp)), (a_rs, .inl (ca_rs, 48, .inl fa_rs)), (a_rg, .inl (ca_rg, 144, .inl fa_rg)), (a_td, .inl (ca_td, 4, .inl g_a_td_99)), (a_pu, .inl (ca_pu, 4, .inl g_a_pu_100)), (a_so, .inl (ca_so, 200, .inl fa_so)), (a_sh, .inl (ca_sh, 600, .inl fa_sh)), (a_rw, .inl (ca_rw, 200, .inl g_a_rw_101)), (a_wk, .inl (ca_wk, 96, .inr (.inl f_106))), (a_cf, .inl (ca_cf, 12, .inl fa_cf)), (a_cm, .inl (ca_cm, 12, .inl fa_cm)), (a_kt, .inl (ca_kt, 192, .inl fa_kt)), (a_lf, .inl (ca_lf, 192, .inl fa_lf)), (a_rt, .inl (ca_rt, 192, .inl fa_rt)), (a_am, .inl (ca_am, 192, .inl fa_am)), (a_ah, .inl (ca_ah, 192, .inl fa_ah)), (a_gb, .inl (ca_gb, 192, .inl fa_gb))]) [9, 10, 11, 12, 13, 14, 15, 16, 17, 18, 19, 20, 21, 22, 23, 24, 25, 26, 27, 28, 29, 30, 0, 1, 2, 3, 4, 5, 6, 7, 8] rfl) (hD.sub (ws' := [(h0, .inr (12, [h0_0, h0_1, h0_2, .int ml, .int mn, .ref hs, .ref ha, .ref hb9, h0_8, .ref hct, .ref hfo, .ref hbd, .ref hlt, .ref hrk, h0_14, h0_15, .int mq, .int mw, .int mh, .int mc, .ref a_cx, .ref a_cy, .ref a_th, .int mk, .ref hme, .ref hv, .ref hkp, h0_27, h0_28, h0_29, h0_30, h0_31, h0_32, h0_33, h0_34, .ref a_rs, .ref a_rg, .ref a_td, .ref a_pu, .long n_h0_miss_98, .int ms, .ref a_so, .ref a_sh, .ref a_rw, .int mca, h0_45, .int mkn, h0_47, h0_48, h0_49, .ref a_cf, .ref a_cm, .ref a_kt, .ref a_lf, .ref a_rt, .ref a_am, .ref a_ah, .ref a_gb, h0_58, h0_59, h0_60, h0_61, h0_62, h0_63, h0_64, h0_65, h0_66, h0_67, h0_68, .ref a_wk])), (hct, .inl (chct, 80, .inl fhct)), (hs, .inl (chs, 80, .inl fhs)), (ha, .inl (cha, 80, .inl fha)), (hb9, .inl (chb9, 80, .inl fhb9)), (hbd, .inl (chbd, 12, .inl fhbd)), (hlt, .inl (chlt, 144, .inl fhlt)), (hrk, .inl (chrk, 12, .inl fhrk)), (a_cx, .inl (ca_cx, 10, .inl fa_cx)), (a_cy, .inl (ca_cy, 10, .inl fa_cy)), (a_th, .inl (ca_th, 120, .inl fa_th)), (hfo, .inl (chfo, 11520, .inl fhfo)), (hme, .inl (chme, 6, .inl fhme)), (hv, .inl (chv, 6, .inl fhv)), (hkp, .inl (chkp, 24, .inl fhkp)), (a_rs, .inl (ca_rs, 48, .inl fa_rs)), (a_rg, .inl (ca_rg, 144, .inl fa_rg)), (a_td, .inl (ca_td, 4, .inl g_a_td_99)), (a_pu, .inl (ca_pu, 4, .inl g_a_pu_100)), (a_so, .inl (ca_so, 200, .inl fa_so)), (a_sh, .inl (ca_sh, 600, .inl fa_sh)), (a_rw, .inl (ca_rw, 200, .inl g_a_rw_101)), (a_wk, .inl (ca_wk, 96, .inr (.inl f_106))), (a_cf, .inl (ca_cf, 12, .inl fa_cf)), (a_cm, .inl (ca_cm, 12, .inl fa_cm)), (a_kt, .inl (ca_kt, 192, .inl fa_kt)), (a_lf, .inl (ca_lf, 192, .inl fa_lf)), (a_rt, .inl (ca_rt, 192, .inl fa_rt)), (a_am, .inl (ca_am, 192, .inl fa_am)), (a_ah, .inl (ca_ah, 192, .inl fa_ah)), (a_gb, .inl (ca_gb, 192, .inl fa_gb))]) [9, 10, 11, 12, 13, 14, 15, 16, 17, 18, 19, 20, 21, 22, 23, 24, 25, 26, 27, 28, 29, 30, 0, 1, 2, 3, 4, 5, 6, 7, 8] (by decide) rfl) hS (lv_sub hl [0, 1, 5, 6, 7] rfl)
              · have k_108 : (z_102).toInt = (0 : Int) := z_eq c_103
                obtain rfl : z_102 = 0 := z_eq' (show (z_102).toInt = (0 : Int) by omega)
                refine lv_ldc2 (v := (-9223372036854775808)) hx hb hown w__constantLong_RX12_396_9223372036854775808_ dX12_causeOf_213 ?_
                refine z_backQ hQQ ?_
                obtain ⟨hP9, hD9⟩ := z_sub2 (ws' := [(h0, .inr (12, [h0_0, h0_1, h0_2, .int ml, .int mn, .ref hs, .ref ha, .ref hb9, h0_8, .ref hct, .ref hfo, .ref hbd, .ref hlt, .ref hrk, h0_14, h0_15, .int mq, .int mw, .int mh, .int mc, .ref a_cx, .ref a_cy, .ref a_th, .int mk, .ref hme, .ref hv, .ref hkp, h0_27, h0_28, h0_29, h0_30, h0_31, h0_32, h0_33, h0_34, .ref a_rs, .ref a_rg, .ref a_td, .ref a_pu, .long n_h0_miss_98, .int ms, .ref a_so, .ref a_sh, .ref a_rw, .int mca, h0_45, .int mkn, h0_47, h0_48, h0_49, .ref a_cf, .ref a_cm, .ref a_kt, .ref a_lf, .ref a_rt, .ref a_am, .ref a_ah, .ref a_gb, h0_58, h0_59, h0_60, h0_61, h0_62, h0_63, h0_64, h0_65, h0_66, h0_67, h0_68, .ref a_wk])), (hct, .inl (chct, 80, .inl fhct)), (hs, .inl (chs, 80, .inl fhs)), (ha, .inl (cha, 80, .inl fha)), (hb9, .inl (chb9, 80, .inl fhb9)), (hbd, .inl (chbd, 12, .inl fhbd)), (hlt, .inl (chlt, 144, .inl fhlt)), (hrk, .inl (chrk, 12, .inl fhrk)), (a_cx, .inl (ca_cx, 10, .inl fa_cx)), (a_cy, .inl (ca_cy, 10, .inl fa_cy)), (a_th, .inl (ca_th, 120, .inl fa_th)), (hfo, .inl (chfo, 11520, .inl fhfo)), (hme, .inl (chme, 6, .inl fhme)), (hv, .inl (chv, 6, .inl fhv)), (hkp, .inl (chkp, 24, .inl fhkp)), (a_rs, .inl (ca_rs, 48, .inl fa_rs)), (a_rg, .inl (ca_rg, 144, .inl fa_rg)), (a_td, .inl (ca_td, 4, .inl g_a_td_99)), (a_pu, .inl (ca_pu, 4, .inl g_a_pu_100)), (a_so, .inl (ca_so, 200, .inl fa_so)), (a_sh, .inl (ca_sh, 600, .inl fa_sh)), (a_rw, .inl (ca_rw, 200, .inl g_a_rw_101)), (a_wk, .inl (ca_wk, 96, .inr (.inl f_10))), (a_cf, .inl (ca_cf, 12, .inl fa_cf)), (a_cm, .inl (ca_cm, 12, .inl fa_cm)), (a_kt, .inl (ca_kt, 192, .inl fa_kt)), (a_lf, .inl (ca_lf, 192, .inl fa_lf)), (a_rt, .inl (ca_rt, 192, .inl fa_rt)), (a_am, .inl (ca_am, 192, .inl fa_am)), (a_ah, .inl (ca_ah, 192, .inl fa_ah)), (a_gb, .inl (ca_gb, 192, .inl fa_gb))]) hP hD [9, 10, 11, 12, 13, 14, 15, 16, 17, 18, 19, 20, 21, 22, 23, 24, 25, 26, 27, 28, 29, 30, 0, 1, 2, 3, 4, 5, 6, 7, 8] (by decide) rfl
                have hK9 := hK.sub (tys' := []) [] rfl
                refine W.widen (k := 0) (n := 0) (Nat.le_of_ble_eq_true rfl) (Nat.le_of_ble_eq_true rfl) ?_
                exact W.lret (v := (-9223372036854775808)) hx hb hr (fun t ht hW => ⟨⟨(-9223372036854775808), (), rfl, trivial, ⟨n_h0_miss_98, g_a_td_99, g_a_pu_100, g_a_rw_101, f_10, by rw [ht]; exact hP9, va_K.moved hW.alike hK9, hD9⟩⟩, hS.F ht⟩) hS.2.2 dX12_causeOf_216
            · have k_110 : (z_88).toInt ≠ (0 : Int) := z_ne c_89
              refine lv_aload_n hx hb dX12_causeOf_77 rfl (lv_at hl 4 rfl) ?_
              refine lv_iload_n hx hb dX12_causeOf_78 rfl (lv_at hl 6 rfl) ?_
              obtain ⟨hPc, hDc⟩ := z_sub2 (ws' := [(h0, .inr (12, [h0_0, h0_1, h0_2, .int ml, .int mn, .ref hs, .ref ha, .ref hb9, h0_8, .ref hct, .ref hfo, .ref hbd, .ref hlt, .ref hrk, h0_14, h0_15, .int mq, .int mw, .int mh, .int mc, .ref a_cx, .ref a_cy, .ref a_th, .int mk, .ref hme, .ref hv, .ref hkp, h0_27, h0_28, h0_29, h0_30, h0_31, h0_32, h0_33, h0_34, .ref a_rs, .ref a_rg, .ref a_td, .ref a_pu, .long v_6, .int ms, .ref a_so, .ref a_sh, .ref a_rw, .int mca, h0_45, .int mkn, h0_47, h0_48, h0_49, .ref a_cf, .ref a_cm, .ref a_kt, .ref a_lf, .ref a_rt, .ref a_am, .ref a_ah, .ref a_gb, h0_58, h0_59, h0_60, h0_61, h0_62, h0_63, h0_64, h0_65, h0_66, h0_67, h0_68, .ref a_wk])), (hlt, .inl (chlt, 144, .inl fhlt)), (hrk, .inl (chrk, 12, .inl fhrk))]) hP hD [0, 6, 7] (by decide) rfl
              have hKc := hK.sub (tys' := [(chlt, .boolean), (chrk, .int)]) [5, 6] rfl
              have hFc := va_free (ws := []) (wc := []) (z_D0 _) hS hA [] rfl
              refine va_calli (va_runV (As := [.int p2]) (rest := []) ⟨hx, hb, hml, hown, hts⟩ (s_X12_aheadOf l dC dI H.size h0 p2 h0_0 h0_1 h0_2 (.int ml) (.int mn) (.ref hs) (.ref ha) (.ref hb9) h0_8 (.ref hct) (.ref hfo) (.ref hbd) hlt hrk h0_14 h0_15 mq (.int mw) (.int mh) (.int mc) (.ref a_cx) (.ref a_cy) (.ref a_th) (.int mk) (.ref hme) (.ref hv) (.ref hkp) h0_27 h0_28 h0_29 h0_30 h0_31 h0_32 h0_33 h0_34 (.ref a_rs) (.ref a_rg) (.ref a_td) (.ref a_pu) (.long v_6) (.int ms) (.ref a_so) (.ref a_sh) (.ref a_rw) (.int mca) h0_45 (.int mkn) h0_47 h0_48 h0_49 (.ref a_cf) (.ref a_cm) (.ref a_kt) (.ref a_lf) (.ref a_rt) (.ref a_am) (.ref a_ah) (.ref a_gb) h0_58 h0_59 h0_60 h0_61 h0_62 h0_63 h0_64 h0_65 h0_66 h0_67 h0_68 (.ref a_wk) chlt fhlt chrk fhrk hB_p2) (cwV 1 hts gw_s_X12_causeOf_s_X12_aheadOf_416 rfl rfl rfl (by decide +kernel) ⟨Nat.le_of_ble_eq_true rfl, Nat.le_of_ble_eq_true rfl⟩) ⟨z_blind, va_recv hKc hPc (ci := 12) (q0 := 0) rfl rfl, z_pre hPc hKc hDc⟩ rfl rfl hl.1 rfl (lv_room (Nat.le_of_ble_eq_true rfl)) dX12_causeOf_79 ⟨Nat.le_of_ble_eq_true rfl, Nat.le_of_ble_eq_true rfl⟩) hS (fun q _ h => hFc q h) hFc (fun r_112 u t H_111 locs ht hvm hw_113 hB hz1 hk1 hS => ?_)
              replace hP := z_pure hP hk1
              clear hPc hDc hKc
              refine lv_goto (tgt := 86) hx hb dX12_causeOf_82 (by decide) ?_
              refine lv_istore (lv' := [(8, .int r_112), (7, .int 15), (6, .int z_18), (5, .int i_5), (3, .long v_4), (0, .ref h0), (1, .int p1), (2, .int p2)]) hx hb dX12_causeOf_86 hl (by decide) rfl (fun ls hl => ?_)
              refine lv_iload hx hb dX12_causeOf_88 (lv_at hl 0 rfl) ?_
              refine lv_if_ge (tgt := 99) hx hb dX12_causeOf_90 (by decide) (fun c_114 => ?_) (fun c_114 => ?_)
              · have k_115 : (0 : Int) ≤ (r_112).toInt := z_le c_114
                refine lv_aload_n hx hb dX12_causeOf_99 rfl (lv_at hl 5 rfl) ?_
                refine lv_iload hx hb dX12_causeOf_100 (lv_at hl 0 rfl) ?_
                refine lv_aload_n hx hb dX12_causeOf_102 rfl (lv_at hl 5 rfl) ?_
                refine va_get (D := (dC, dI)) (ci := 12) (v := .ref a_am) (C := RX12) (T := TX12) (N := 70) hx hb hts hiX12 hown hK hP 0 rfl rfl 55 (by decide) w__fieldLink_RX12_120_ShellHeapModel_amount_I_ (fun _ h9 => h9) rfl dX12_causeOf_103 ?_
                refine lv_iload hx hb dX12_causeOf_106 (lv_at hl 2 rfl) ?_
                refine va_iald hx hb hK hP 28 27 rfl rfl (z_vpin (by omega) (by omega)) dX12_causeOf_108 ?_
                refine lv_topi (fun z_116 ez_116 => ?_)
                obtain ⟨hPc, hDc, hFc⟩ := z_sub3 (ws' := [(h0, .inr (12, [h0_0, h0_1, h0_2, .int ml, .int mn, .ref hs, .ref ha, .ref hb9, h0_8, .ref hct, .ref hfo, .ref hbd, .ref hlt, .ref hrk, h0_14, h0_15, .int mq, .int mw, .int mh, .int mc, .ref a_cx, .ref a_cy, .ref a_th, .int mk, .ref hme, .ref hv, .ref hkp, h0_27, h0_28, h0_29, h0_30, h0_31, h0_32, h0_33, h0_34, .ref a_rs, .ref a_rg, .ref a_td, .ref a_pu, .long v_6, .int ms, .ref a_so, .ref a_sh, .ref a_rw, .int mca, h0_45, .int mkn, h0_47, h0_48, h0_49, .ref a_cf, .ref a_cm, .ref a_kt, .ref a_lf, .ref a_rt, .ref a_am, .ref a_ah, .ref a_gb, h0_58, h0_59, h0_60, h0_61, h0_62, h0_63, h0_64, h0_65, h0_66, h0_67, h0_68, .ref a_wk])), (hct, .inl (chct, 80, .inl fhct)), (hs, .inl (chs, 80, .inl fhs)), (ha, .inl (cha, 80, .inl fha)), (hb9, .inl (chb9, 80, .inl fhb9)), (hbd, .inl (chbd, 12, .inl fhbd)), (hlt, .inl (chlt, 144, .inl fhlt)), (hrk, .inl (chrk, 12, .inl fhrk)), (a_cx, .inl (ca_cx, 10, .inl fa_cx)), (a_cy, .inl (ca_cy, 10, .inl fa_cy)), (a_th, .inl (ca_th, 120, .inl fa_th)), (hfo, .inl (chfo, 11520, .inl fhfo)), (hme, .inl (chme, 6, .inl fhme)), (hv, .inl (chv, 6, .inl fhv)), (hkp, .inl (chkp, 24, .inl fhkp)), (a_rs, .inl (ca_rs, 48, .inl fa_rs)), (a_rg, .inl (ca_rg, 144, .inl fa_rg)), (a_td, .inl (ca_td, 4, .inl f_7)), (a_pu, .inl (ca_pu, 4, .inl f_8)), (a_so, .inl (ca_so, 200, .inl fa_so)), (a_sh, .inl (ca_sh, 600, .inl fa_sh)), (a_rw, .inl (ca_rw, 200, .inl f_9))]) hP hD hS hA [0, 1, 2, 3, 4, 5, 6, 7, 8, 9, 10, 11, 12, 13, 14, 15, 16, 17, 18, 19, 20, 21] (by decide) rfl
                have hKc := hK.sub (tys' := [(chct, .boolean), (chs, .int), (cha, .int), (chb9, .int), (chbd, .int), (chlt, .boolean), (chrk, .int), (ca_cx, .int), (ca_cy, .int), (ca_th, .int), (chfo, .int), (chme, .int), (chv, .int), (chkp, .int), (ca_rs, .int), (ca_rg, .int), (ca_td, .int), (ca_pu, .int), (ca_so, .int), (ca_sh, .int), (ca_rw, .int)]) [0, 1, 2, 3, 4, 5, 6, 7, 8, 9, 10, 11, 12, 13, 14, 15, 16, 17, 18, 19, 20] rfl
                refine va_calll (va_runV (As := [.int r_112, .int z_116]) (rest := []) ⟨hx, hb, hml, hown, hts⟩ (s_X12_nameValue l dC dI H_111.size h0 r_112 z_116 h0_0 h0_1 h0_2 ml mn hs ha hb9 h0_8 hct hfo hbd hlt hrk h0_14 h0_15 mq mw mh mc a_cx a_cy a_th mk hme hv hkp h0_27 h0_28 h0_29 h0_30 h0_31 h0_32 h0_33 h0_34 a_rs a_rg a_td a_pu v_6 ms a_so a_sh a_rw (.int mca) h0_45 (.int mkn) h0_47 h0_48 h0_49 (.ref a_cf) (.ref a_cm) (.ref a_kt) (.ref a_lf) (.ref a_rt) (.ref a_am) (.ref a_ah) (.ref a_gb) h0_58 h0_59 h0_60 h0_61 h0_62 h0_63 h0_64 h0_65 h0_66 h0_67 h0_68 (.ref a_wk) chct fhct chs fhs cha fha chb9 fhb9 chbd fhbd chlt fhlt chrk fhrk ca_cx fa_cx ca_cy fa_cy ca_th fa_th chfo fhfo chme fhme chv fhv chkp fhkp ca_rs fa_rs ca_rg fa_rg ca_td f_7 ca_pu f_8 ca_so fa_so ca_sh fa_sh ca_rw f_9 hB_mn hB_ml hB_mq hB_mw hB_mh hB_mc hB_mk hB_ms (by first | omega | decide) hI_ha hI_hbd hI_hkp hI_a_so hR) (cwV 2 hts gw_s_X12_causeOf_s_X12_nameValue_419 rfl rfl rfl (by decide +kernel) ⟨Nat.le_of_ble_eq_true rfl, Nat.le_of_ble_eq_true rfl⟩) ⟨z_blind, va_recv hKc hPc (ci := 12) (q0 := 0) rfl rfl, z_pre hPc hKc hDc⟩ rfl rfl hl.1 rfl (lv_room (Nat.le_of_ble_eq_true rfl)) dX12_causeOf_109 ⟨Nat.le_of_ble_eq_true rfl, Nat.le_of_ble_eq_true rfl⟩) hS (fun q _ h => hFc q h) hFc (fun r_118 u t H_117 locs ht hvm hw_119 hB hz1 hk1 hS => ?_)
                obtain ⟨n_h0_miss_120, g_a_td_121, g_a_pu_122, g_a_rw_123, hP1, hK1, hD1⟩ := hB
                rw [ht] at hP1
                have hK1 := va_K.moved hvm.symm hK1
                obtain ⟨hP, hD⟩ := z_ap_9 (va_join (wr := [(a_wk, .inl (ca_wk, 96, .inr (.inl f_10))), (a_cf, .inl (ca_cf, 12, .inl fa_cf)), (a_cm, .inl (ca_cm, 12, .inl fa_cm)), (a_kt, .inl (ca_kt, 192, .inl fa_kt)), (a_lf, .inl (ca_lf, 192, .inl fa_lf)), (a_rt, .inl (ca_rt, 192, .inl fa_rt)), (a_am, .inl (ca_am, 192, .inl fa_am)), (a_ah, .inl (ca_ah, 192, .inl fa_ah)), (a_gb, .inl (ca_gb, 192, .inl fa_gb))]) hP hD [0, 1, 2, 3, 4, 5, 6, 7, 8, 9, 10, 11, 12, 13, 14, 15, 16, 17, 18, 19, 20, 21] [22, 23, 24, 25, 26, 27, 28, 29, 30] rfl rfl (by decide) (by decide) hk1 hFc hP1 hD1)
                clear hPc hDc hKc
                refine lv_lstore_n (lv' := [(3, .long r_118), (8, .int r_112), (7, .int 15), (6, .int z_18), (5, .int i_5), (0, .ref h0), (1, .int p1), (2, .int p2)]) hx hb dX12_causeOf_112 rfl hl (by decide) rfl (fun ls hl => ?_)
                refine lv_goto (tgt := 205) hx hb dX12_causeOf_113 (by decide) ?_
                refine lv_lload_n hx hb dX12_causeOf_205 rfl (lv_at hl 0 rfl) ?_
                refine lv_ldc2 (v := (-9223372036854775808)) hx hb hown w__constantLong_RX12_396_9223372036854775808_ dX12_causeOf_206 ?_
                refine W.lcmp hx hb dX12_causeOf_209 ?_
                refine lv_topi (fun z_124 ez_124 => ?_)
                have kz_124 : ((z_124).toInt = (1 : Int) ∧ (r_118).toInt > (-9223372036854775808 : Int)) ∨ ((z_124).toInt = (0 : Int) ∧ (r_118).toInt = (-9223372036854775808 : Int)) ∨ ((z_124).toInt = (-1 : Int) ∧ (r_118).toInt < (-9223372036854775808 : Int)) := z_lcmp ez_124
                refine lv_if_ne (tgt := 217) hx hb dX12_causeOf_210 (by decide) (fun c_125 => ?_) (fun c_125 => ?_)
                · have k_126 : (z_124).toInt ≠ (0 : Int) := z_ne c_125
                  refine lv_aload_n hx hb dX12_causeOf_217 rfl (lv_at hl 5 rfl) ?_
                  refine va_get (D := (dC, dI)) (ci := 12) (v := .ref a_wk) (C := RX12) (T := TX12) (N := 70) hx hb hts hiX12 hown hK hP 9 rfl rfl 69 (by decide) w__fieldLink_RX12_141_ShellHeapModel_worked_J_ (fun _ h9 => h9) rfl dX12_causeOf_218 ?_
                  refine lv_iload hx hb dX12_causeOf_221 (lv_at hl 3 rfl) ?_
                  refine lv_lload_n hx hb dX12_causeOf_223 rfl (lv_at hl 0 rfl) ?_
                  refine va_last hx hb hK hP hD hS 0 21 rfl rfl (z_vpin (by omega) (by omega)) dX12_causeOf_224 (fun H_127 locs hP hD hS => ?_)
                  obtain ⟨hP, hD⟩ := z_s_0 hP hD
                  generalize (vp_updL f_10 (z_18 : Int32).toNatClampNeg r_118) = f_128 at hP hD
                  obtain ⟨z_129, ez_129⟩ : ∃ y : Int32, y = i_5 + 1 := ⟨_, rfl⟩
                  have kz_129 : (z_129).toInt = (i_5).toInt + (1 : Int) := by rw [ez_129]; exact z_add (b := 1) rfl rfl (z_al hF_11.1 (by decide)) (z_ah hF_11.2 (by decide))
                  refine lv_iinc (v := z_129) (lv' := [(5, .int z_129), (3, .long r_118), (8, .int r_112), (7, .int 15), (6, .int z_18), (0, .ref h0), (1, .int p1), (2, .int p2)]) hx hb dX12_causeOf_225 hl (k := 4) rfl (by rw [ez_129]; rfl) (by decide) rfl (fun ls hl => ?_)
                  refine lv_goto (tgt := 7) hx hb dX12_causeOf_228 (by decide) ?_
                  exact ih_3 r_118 z_129 n_h0_miss_120 g_a_td_121 g_a_pu_122 g_a_rw_123 f_128 _ _ _ (show (97 - (z_129).toInt).toNat < n_2 by omega) (show ((0 : Int) ≤ (z_129).toInt ∧ (z_129).toInt ≤ (96 : Int)) by omega) (hP.sub (ws' := [(h0, .inr (12, [h0_0, h0_1, h0_2, .int ml, .int mn, .ref hs, .ref ha, .ref hb9, h0_8, .ref hct, .ref hfo, .ref hbd, .ref hlt, .ref hrk, h0_14, h0_15, .int mq, .int mw, .int mh, .int mc, .ref a_cx, .ref a_cy, .ref a_th, .int mk, .ref hme, .ref hv, .ref hkp, h0_27, h0_28, h0_29, h0_30, h0_31, h0_32, h0_33, h0_34, .ref a_rs, .ref a_rg, .ref a_td, .ref a_pu, .long n_h0_miss_120, .int ms, .ref a_so, .ref a_sh, .ref a_rw, .int mca, h0_45, .int mkn, h0_47, h0_48, h0_49, .ref a_cf, .ref a_cm, .ref a_kt, .ref a_lf, .ref a_rt, .ref a_am, .ref a_ah, .ref a_gb, h0_58, h0_59, h0_60, h0_61, h0_62, h0_63, h0_64, h0_65, h0_66, h0_67, h0_68, .ref a_wk])), (hct, .inl (chct, 80, .inl fhct)), (hs, .inl (chs, 80, .inl fhs)), (ha, .inl (cha, 80, .inl fha)), (hb9, .inl (chb9, 80, .inl fhb9)), (hbd, .inl (chbd, 12, .inl fhbd)), (hlt, .inl (chlt, 144, .inl fhlt)), (hrk, .inl (chrk, 12, .inl fhrk)), (a_cx, .inl (ca_cx, 10, .inl fa_cx)), (a_cy, .inl (ca_cy, 10, .inl fa_cy)), (a_th, .inl (ca_th, 120, .inl fa_th)), (hfo, .inl (chfo, 11520, .inl fhfo)), (hme, .inl (chme, 6, .inl fhme)), (hv, .inl (chv, 6, .inl fhv)), (hkp, .inl (chkp, 24, .inl fhkp)), (a_rs, .inl (ca_rs, 48, .inl fa_rs)), (a_rg, .inl (ca_rg, 144, .inl fa_rg)), (a_td, .inl (ca_td, 4, .inl g_a_td_121)), (a_pu, .inl (ca_pu, 4, .inl g_a_pu_122)), (a_so, .inl (ca_so, 200, .inl fa_so)), (a_sh, .inl (ca_sh, 600, .inl fa_sh)), (a_rw, .inl (ca_rw, 200, .inl g_a_rw_123)), (a_wk, .inl (ca_wk, 96, .inr (.inl f_128))), (a_cf, .inl (ca_cf, 12, .inl fa_cf)), (a_cm, .inl (ca_cm, 12, .inl fa_cm)), (a_kt, .inl (ca_kt, 192, .inl fa_kt)), (a_lf, .inl (ca_lf, 192, .inl fa_lf)), (a_rt, .inl (ca_rt, 192, .inl fa_rt)), (a_am, .inl (ca_am, 192, .inl fa_am)), (a_ah, .inl (ca_ah, 192, .inl fa_ah)), (a_gb, .inl (ca_gb, 192, .inl fa_gb))]) [9, 10, 11, 12, 13, 14, 15, 16, 17, 18, 19, 20, 21, 22, 23, 24, 25, 26, 27, 28, 29, 30, 0, 1, 2, 3, 4, 5, 6, 7, 8] rfl) (hD.sub (ws' := [(h0, .inr (12, [h0_0, h0_1, h0_2, .int ml, .int mn, .ref hs, .ref ha, .ref hb9, h0_8, .ref hct, .ref hfo, .ref hbd, .ref hlt, .ref hrk, h0_14, h0_15, .int mq, .int mw, .int mh, .int mc, .ref a_cx, .ref a_cy, .ref a_th, .int mk, .ref hme, .ref hv, .ref hkp, h0_27, h0_28, h0_29, h0_30, h0_31, h0_32, h0_33, h0_34, .ref a_rs, .ref a_rg, .ref a_td, .ref a_pu, .long n_h0_miss_120, .int ms, .ref a_so, .ref a_sh, .ref a_rw, .int mca, h0_45, .int mkn, h0_47, h0_48, h0_49, .ref a_cf, .ref a_cm, .ref a_kt, .ref a_lf, .ref a_rt, .ref a_am, .ref a_ah, .ref a_gb, h0_58, h0_59, h0_60, h0_61, h0_62, h0_63, h0_64, h0_65, h0_66, h0_67, h0_68, .ref a_wk])), (hct, .inl (chct, 80, .inl fhct)), (hs, .inl (chs, 80, .inl fhs)), (ha, .inl (cha, 80, .inl fha)), (hb9, .inl (chb9, 80, .inl fhb9)), (hbd, .inl (chbd, 12, .inl fhbd)), (hlt, .inl (chlt, 144, .inl fhlt)), (hrk, .inl (chrk, 12, .inl fhrk)), (a_cx, .inl (ca_cx, 10, .inl fa_cx)), (a_cy, .inl (ca_cy, 10, .inl fa_cy)), (a_th, .inl (ca_th, 120, .inl fa_th)), (hfo, .inl (chfo, 11520, .inl fhfo)), (hme, .inl (chme, 6, .inl fhme)), (hv, .inl (chv, 6, .inl fhv)), (hkp, .inl (chkp, 24, .inl fhkp)), (a_rs, .inl (ca_rs, 48, .inl fa_rs)), (a_rg, .inl (ca_rg, 144, .inl fa_rg)), (a_td, .inl (ca_td, 4, .inl g_a_td_121)), (a_pu, .inl (ca_pu, 4, .inl g_a_pu_122)), (a_so, .inl (ca_so, 200, .inl fa_so)), (a_sh, .inl (ca_sh, 600, .inl fa_sh)), (a_rw, .inl (ca_rw, 200, .inl g_a_rw_123)), (a_wk, .inl (ca_wk, 96, .inr (.inl f_128))), (a_cf, .inl (ca_cf, 12, .inl fa_cf)), (a_cm, .inl (ca_cm, 12, .inl fa_cm)), (a_kt, .inl (ca_kt, 192, .inl fa_kt)), (a_lf, .inl (ca_lf, 192, .inl fa_lf)), (a_rt, .inl (ca_rt, 192, .inl fa_rt)), (a_am, .inl (ca_am, 192, .inl fa_am)), (a_ah, .inl (ca_ah, 192, .inl fa_ah)), (a_gb, .inl (ca_gb, 192, .inl fa_gb))]) [9, 10, 11, 12, 13, 14, 15, 16, 17, 18, 19, 20, 21, 22, 23, 24, 25, 26, 27, 28, 29, 30, 0, 1, 2, 3, 4, 5, 6, 7, 8] (by decide) rfl) hS (lv_sub hl [0, 1, 5, 6, 7] rfl)
                · have k_130 : (z_124).toInt = (0 : Int) := z_eq c_125
                  obtain rfl : z_124 = 0 := z_eq' (show (z_124).toInt = (0 : Int) by omega)
                  refine lv_ldc2 (v := (-9223372036854775808)) hx hb hown w__constantLong_RX12_396_9223372036854775808_ dX12_causeOf_213 ?_
                  refine z_backQ hQQ ?_
                  obtain ⟨hP9, hD9⟩ := z_sub2 (ws' := [(h0, .inr (12, [h0_0, h0_1, h0_2, .int ml, .int mn, .ref hs, .ref ha, .ref hb9, h0_8, .ref hct, .ref hfo, .ref hbd, .ref hlt, .ref hrk, h0_14, h0_15, .int mq, .int mw, .int mh, .int mc, .ref a_cx, .ref a_cy, .ref a_th, .int mk, .ref hme, .ref hv, .ref hkp, h0_27, h0_28, h0_29, h0_30, h0_31, h0_32, h0_33, h0_34, .ref a_rs, .ref a_rg, .ref a_td, .ref a_pu, .long n_h0_miss_120, .int ms, .ref a_so, .ref a_sh, .ref a_rw, .int mca, h0_45, .int mkn, h0_47, h0_48, h0_49, .ref a_cf, .ref a_cm, .ref a_kt, .ref a_lf, .ref a_rt, .ref a_am, .ref a_ah, .ref a_gb, h0_58, h0_59, h0_60, h0_61, h0_62, h0_63, h0_64, h0_65, h0_66, h0_67, h0_68, .ref a_wk])), (hct, .inl (chct, 80, .inl fhct)), (hs, .inl (chs, 80, .inl fhs)), (ha, .inl (cha, 80, .inl fha)), (hb9, .inl (chb9, 80, .inl fhb9)), (hbd, .inl (chbd, 12, .inl fhbd)), (hlt, .inl (chlt, 144, .inl fhlt)), (hrk, .inl (chrk, 12, .inl fhrk)), (a_cx, .inl (ca_cx, 10, .inl fa_cx)), (a_cy, .inl (ca_cy, 10, .inl fa_cy)), (a_th, .inl (ca_th, 120, .inl fa_th)), (hfo, .inl (chfo, 11520, .inl fhfo)), (hme, .inl (chme, 6, .inl fhme)), (hv, .inl (chv, 6, .inl fhv)), (hkp, .inl (chkp, 24, .inl fhkp)), (a_rs, .inl (ca_rs, 48, .inl fa_rs)), (a_rg, .inl (ca_rg, 144, .inl fa_rg)), (a_td, .inl (ca_td, 4, .inl g_a_td_121)), (a_pu, .inl (ca_pu, 4, .inl g_a_pu_122)), (a_so, .inl (ca_so, 200, .inl fa_so)), (a_sh, .inl (ca_sh, 600, .inl fa_sh)), (a_rw, .inl (ca_rw, 200, .inl g_a_rw_123)), (a_wk, .inl (ca_wk, 96, .inr (.inl f_10))), (a_cf, .inl (ca_cf, 12, .inl fa_cf)), (a_cm, .inl (ca_cm, 12, .inl fa_cm)), (a_kt, .inl (ca_kt, 192, .inl fa_kt)), (a_lf, .inl (ca_lf, 192, .inl fa_lf)), (a_rt, .inl (ca_rt, 192, .inl fa_rt)), (a_am, .inl (ca_am, 192, .inl fa_am)), (a_ah, .inl (ca_ah, 192, .inl fa_ah)), (a_gb, .inl (ca_gb, 192, .inl fa_gb))]) hP hD [9, 10, 11, 12, 13, 14, 15, 16, 17, 18, 19, 20, 21, 22, 23, 24, 25, 26, 27, 28, 29, 30, 0, 1, 2, 3, 4, 5, 6, 7, 8] (by decide) rfl
                  have hK9 := hK.sub (tys' := []) [] rfl
                  refine W.widen (k := 0) (n := 0) (Nat.le_of_ble_eq_true rfl) (Nat.le_of_ble_eq_true rfl) ?_
                  exact W.lret (v := (-9223372036854775808)) hx hb hr (fun t ht hW => ⟨⟨(-9223372036854775808), (), rfl, trivial, ⟨n_h0_miss_120, g_a_td_121, g_a_pu_122, g_a_rw_123, f_10, by rw [ht]; exact hP9, va_K.moved hW.alike hK9, hD9⟩⟩, hS.F ht⟩) hS.2.2 dX12_causeOf_216
              · have k_132 : (0 : Int) > (r_112).toInt := z_nle c_114
                obtain rfl : r_112 = (-1) := z_eq' (show (r_112).toInt = (-1 : Int) by omega)
                refine lv_ldc2 (v := (-9223372036854775808)) hx hb hown w__constantLong_RX12_396_9223372036854775808_ dX12_causeOf_93 ?_
                refine lv_goto (tgt := 112) hx hb dX12_causeOf_96 (by decide) ?_
                refine lv_lstore_n (lv' := [(3, .long (-9223372036854775808)), (8, .int (-1)), (7, .int 15), (6, .int z_18), (5, .int i_5), (0, .ref h0), (1, .int p1), (2, .int p2)]) hx hb dX12_causeOf_112 rfl hl (by decide) rfl (fun ls hl => ?_)
                refine lv_goto (tgt := 205) hx hb dX12_causeOf_113 (by decide) ?_
                refine lv_lload_n hx hb dX12_causeOf_205 rfl (lv_at hl 0 rfl) ?_
                refine lv_ldc2 (v := (-9223372036854775808)) hx hb hown w__constantLong_RX12_396_9223372036854775808_ dX12_causeOf_206 ?_
                refine W.lcmp hx hb dX12_causeOf_209 ?_
                refine lv_topi (fun z_134 ez_134 => ?_)
                have kz_134 : ((z_134).toInt = (1 : Int) ∧ (-9223372036854775808 : Int) > (-9223372036854775808 : Int)) ∨ ((z_134).toInt = (0 : Int) ∧ (-9223372036854775808 : Int) = (-9223372036854775808 : Int)) ∨ ((z_134).toInt = (-1 : Int) ∧ (-9223372036854775808 : Int) < (-9223372036854775808 : Int)) := z_lcmp ez_134
                refine lv_if_ne (tgt := 217) hx hb dX12_causeOf_210 (by decide) (fun c_135 => ?_) (fun c_135 => ?_)
                · have k_136 : (z_134).toInt ≠ (0 : Int) := z_ne c_135
                  refine lv_aload_n hx hb dX12_causeOf_217 rfl (lv_at hl 5 rfl) ?_
                  refine va_get (D := (dC, dI)) (ci := 12) (v := .ref a_wk) (C := RX12) (T := TX12) (N := 70) hx hb hts hiX12 hown hK hP 0 rfl rfl 69 (by decide) w__fieldLink_RX12_141_ShellHeapModel_worked_J_ (fun _ h9 => h9) rfl dX12_causeOf_218 ?_
                  refine lv_iload hx hb dX12_causeOf_221 (lv_at hl 3 rfl) ?_
                  refine lv_lload_n hx hb dX12_causeOf_223 rfl (lv_at hl 0 rfl) ?_
                  refine va_last hx hb hK hP hD hS 22 21 rfl rfl (z_vpin (by omega) (by omega)) dX12_causeOf_224 (fun H_137 locs hP hD hS => ?_)
                  obtain ⟨hP, hD⟩ := z_s_22 hP hD
                  generalize (vp_updL f_10 (z_18 : Int32).toNatClampNeg (-9223372036854775808)) = f_138 at hP hD
                  obtain ⟨z_139, ez_139⟩ : ∃ y : Int32, y = i_5 + 1 := ⟨_, rfl⟩
                  have kz_139 : (z_139).toInt = (i_5).toInt + (1 : Int) := by rw [ez_139]; exact z_add (b := 1) rfl rfl (z_al hF_11.1 (by decide)) (z_ah hF_11.2 (by decide))
                  refine lv_iinc (v := z_139) (lv' := [(5, .int z_139), (3, .long (-9223372036854775808)), (8, .int (-1)), (7, .int 15), (6, .int z_18), (0, .ref h0), (1, .int p1), (2, .int p2)]) hx hb dX12_causeOf_225 hl (k := 4) rfl (by rw [ez_139]; rfl) (by decide) rfl (fun ls hl => ?_)
                  refine lv_goto (tgt := 7) hx hb dX12_causeOf_228 (by decide) ?_
                  exact ih_3 (-9223372036854775808) z_139 v_6 f_7 f_8 f_9 f_138 _ _ _ (show (97 - (z_139).toInt).toNat < n_2 by omega) (show ((0 : Int) ≤ (z_139).toInt ∧ (z_139).toInt ≤ (96 : Int)) by omega) hP hD hS (lv_sub hl [0, 1, 5, 6, 7] rfl)
                · have k_140 : (z_134).toInt = (0 : Int) := z_eq c_135
                  obtain rfl : z_134 = 0 := z_eq' (show (z_134).toInt = (0 : Int) by omega)
                  refine lv_ldc2 (v := (-9223372036854775808)) hx hb hown w__constantLong_RX12_396_9223372036854775808_ dX12_causeOf_213 ?_
                  refine z_backQ hQQ ?_
                  have hP9 := hP
                  have hD9 := hD
                  have hK9 := hK.sub (tys' := []) [] rfl
                  refine W.widen (k := 0) (n := 0) (Nat.le_of_ble_eq_true rfl) (Nat.le_of_ble_eq_true rfl) ?_
                  exact W.lret (v := (-9223372036854775808)) hx hb hr (fun t ht hW => ⟨⟨(-9223372036854775808), (), rfl, trivial, ⟨v_6, f_7, f_8, f_9, f_10, by rw [ht]; exact hP9, va_K.moved hW.alike hK9, hD9⟩⟩, hS.F ht⟩) hS.2.2 dX12_causeOf_216
        · have k_142 : (z_19).toInt = (0 : Int) := z_eq c_20
          obtain rfl : z_19 = 0 := z_eq' (show (z_19).toInt = (0 : Int) by omega)
          refine lv_aload_n hx hb dX12_causeOf_48 rfl (lv_at hl 4 rfl) ?_
          refine va_get (D := (dC, dI)) (ci := 12) (v := .ref a_am) (C := RX12) (T := TX12) (N := 70) hx hb hts hiX12 hown hK hP 0 rfl rfl 55 (by decide) w__fieldLink_RX12_120_ShellHeapModel_amount_I_ (fun _ h9 => h9) rfl dX12_causeOf_49 ?_
          refine lv_iload hx hb dX12_causeOf_52 (lv_at hl 1 rfl) ?_
          refine va_iald hx hb hK hP 28 27 rfl rfl (z_vpin (by omega) (by omega)) dX12_causeOf_54 ?_
          refine lv_topi (fun z_144 ez_144 => ?_)
          refine lv_i2l hx hb dX12_causeOf_55 rfl ?_
          refine lv_topl (fun z_145 ez_145 => ?_)
          have kz_145 : (z_145).toInt = (z_144).toInt := by rw [ez_145]; exact z_i2l _
          refine lv_lstore_n (lv' := [(3, .long z_145), (7, .int 0), (6, .int z_18), (5, .int i_5), (0, .ref h0), (1, .int p1), (2, .int p2)]) hx hb dX12_causeOf_56 rfl hl (by decide) rfl (fun ls hl => ?_)
          refine lv_goto (tgt := 205) hx hb dX12_causeOf_57 (by decide) ?_
          refine lv_lload_n hx hb dX12_causeOf_205 rfl (lv_at hl 0 rfl) ?_
          refine lv_ldc2 (v := (-9223372036854775808)) hx hb hown w__constantLong_RX12_396_9223372036854775808_ dX12_causeOf_206 ?_
          refine W.lcmp hx hb dX12_causeOf_209 ?_
          refine lv_topi (fun z_146 ez_146 => ?_)
          have kz_146 : ((z_146).toInt = (1 : Int) ∧ (z_145).toInt > (-9223372036854775808 : Int)) ∨ ((z_146).toInt = (0 : Int) ∧ (z_145).toInt = (-9223372036854775808 : Int)) ∨ ((z_146).toInt = (-1 : Int) ∧ (z_145).toInt < (-9223372036854775808 : Int)) := z_lcmp ez_146
          refine lv_if_ne (tgt := 217) hx hb dX12_causeOf_210 (by decide) (fun c_147 => ?_) (fun c_147 => ?_)
          · have k_148 : (z_146).toInt ≠ (0 : Int) := z_ne c_147
            refine lv_aload_n hx hb dX12_causeOf_217 rfl (lv_at hl 4 rfl) ?_
            refine va_get (D := (dC, dI)) (ci := 12) (v := .ref a_wk) (C := RX12) (T := TX12) (N := 70) hx hb hts hiX12 hown hK hP 0 rfl rfl 69 (by decide) w__fieldLink_RX12_141_ShellHeapModel_worked_J_ (fun _ h9 => h9) rfl dX12_causeOf_218 ?_
            refine lv_iload hx hb dX12_causeOf_221 (lv_at hl 2 rfl) ?_
            refine lv_lload_n hx hb dX12_causeOf_223 rfl (lv_at hl 0 rfl) ?_
            refine va_last hx hb hK hP hD hS 22 21 rfl rfl (z_vpin (by omega) (by omega)) dX12_causeOf_224 (fun H_149 locs hP hD hS => ?_)
            obtain ⟨hP, hD⟩ := z_s_22 hP hD
            generalize (vp_updL f_10 (z_18 : Int32).toNatClampNeg z_145) = f_150 at hP hD
            obtain ⟨z_151, ez_151⟩ : ∃ y : Int32, y = i_5 + 1 := ⟨_, rfl⟩
            have kz_151 : (z_151).toInt = (i_5).toInt + (1 : Int) := by rw [ez_151]; exact z_add (b := 1) rfl rfl (z_al hF_11.1 (by decide)) (z_ah hF_11.2 (by decide))
            refine lv_iinc (v := z_151) (lv' := [(5, .int z_151), (3, .long z_145), (7, .int 0), (6, .int z_18), (0, .ref h0), (1, .int p1), (2, .int p2)]) hx hb dX12_causeOf_225 hl (k := 3) rfl (by rw [ez_151]; rfl) (by decide) rfl (fun ls hl => ?_)
            refine lv_goto (tgt := 7) hx hb dX12_causeOf_228 (by decide) ?_
            exact ih_3 z_145 z_151 v_6 f_7 f_8 f_9 f_150 _ _ _ (show (97 - (z_151).toInt).toNat < n_2 by omega) (show ((0 : Int) ≤ (z_151).toInt ∧ (z_151).toInt ≤ (96 : Int)) by omega) hP hD hS (lv_sub hl [0, 1, 4, 5, 6] rfl)
          · have k_152 : (z_146).toInt = (0 : Int) := z_eq c_147
            obtain rfl : z_146 = 0 := z_eq' (show (z_146).toInt = (0 : Int) by omega)
            refine lv_ldc2 (v := (-9223372036854775808)) hx hb hown w__constantLong_RX12_396_9223372036854775808_ dX12_causeOf_213 ?_
            refine z_backQ hQQ ?_
            have hP9 := hP
            have hD9 := hD
            have hK9 := hK.sub (tys' := []) [] rfl
            refine W.widen (k := 0) (n := 0) (Nat.le_of_ble_eq_true rfl) (Nat.le_of_ble_eq_true rfl) ?_
            exact W.lret (v := (-9223372036854775808)) hx hb hr (fun t ht hW => ⟨⟨(-9223372036854775808), (), rfl, trivial, ⟨v_6, f_7, f_8, f_9, f_10, by rw [ht]; exact hP9, va_K.moved hW.alike hK9, hD9⟩⟩, hS.F ht⟩) hS.2.2 dX12_causeOf_216
  exact loop_1 _ (-9223372036854775808) 0 mm fa_td fa_pu fa_rw fa_wk _ _ _ (Nat.lt_succ_self _) (show ((0 : Int) ≤ (0 : Int) ∧ (0 : Int) ≤ (96 : Int)) by omega) hP hD hS hl
