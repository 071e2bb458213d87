def u_s_X10_open3 : List Cond := .code yX10_open cX10_open 3 none :: ([.fieldLink RX10 15 "ShellHeap$Tape" "text" "I", .fieldLink RX10 22 "ShellHeap$Tape" "digitsJoin" "Z", .fieldLink RX10 26 "ShellHeap$Tape" "fed" "I", .fieldLink RX10 19 "ShellHeap$Tape" "at" "I", .fieldLink RX10 41 "ShellHeap$Tape" "faultSort" "I", .fieldLink RX10 44 "ShellHeap$Tape" "faultPlace" "I", .methodLink RX10 47 yX10_next, .instanceMethod yX10_next, .selects RX10 yX10_next yX10_next, .initialized RX10] ++ (wsX100 ++ (u_s_X10_next3 ++ [])))
theorem gd_s_X10_open3 : z_gd u_s_X10_open3 := z_gdc (by decide +kernel) (z_gda gdX10 (z_gda gd_s_X10_next3 (z_gd0)))
set_option maxRecDepth 20000 in
theorem gw_s_X10_open3_s_X10_next3_47 : GoodIn u_s_X10_open3 (wsV RX10 47 RX10 yX10_next u_s_X10_next3) := z_gV (z_gr _ [7, 8, 9, 10] rfl (by decide +kernel)) (fun w h => ⟨z_mc (z_mr (z_mr (z_ml h))), gd_s_X10_next3 w h⟩)
set_option maxHeartbeats 4000000 in
set_option maxRecDepth 100000 in
theorem s_X10_open3 (l : Launch) (dC : Nat → ClassId) (dI : Nat → Nat → Nat) (sz : Nat) (h0 : Nat) (p1 : Int32) (h1 : Nat) (tt : Int32) (ta : Int32) (tj : Int32) (tf : Int32) (ts : Int32) (te : Int32) (to : Int32) (tg : Int32) (tx : Int32) (ty : Int32) (ch1 : ClassId) (fh1 : Nat → Int32) (hB_tt : ((0 : Int) ≤ (tt).toInt ∧ (tt).toInt ≤ (700 : Int))) (hB_ta : ((0 : Int) ≤ (ta).toInt ∧ (ta).toInt ≤ (700 : Int))) (hB_tf : ((0 : Int) ≤ (tf).toInt ∧ (tf).toInt ≤ (700 : Int))) (hB_ts : ((0 : Int) ≤ (ts).toInt ∧ (ts).toInt ≤ (700 : Int))) (hB_te : ((0 : Int) ≤ (te).toInt ∧ (te).toInt ≤ (700 : Int))) (hB_p1 : ((0 : Int) ≤ (p1).toInt ∧ (p1).toInt ≤ (700 : Int))) (hI_h1 : ∀ j : Nat, ((0 : Int) ≤ (fh1 j).toInt ∧ (fh1 j).toInt ≤ (255 : Int))) : Met l yX10_open u_s_X10_open3 ({ frames := 3, cells := 0, slots := 0, locals := 61 }) (va_Pc [.ref h0, .int p1, .int 1] (z_C (dC, dI) vwCl [(h0, .inr (10, [.ref h1, .int tt, .int ta, .int tj, .int tf, .int ts, .int te, .int to, .int tg, .int tx, .int ty])), (h1, .inl (ch1, 700, .inl fh1))] [(ch1, .int)] sz)) (va_Qv (fun (_ : Unit) => True) (fun (_ : Unit) (t : State) => ∃ (n_h0_at : Int32), ∃ (n_h0_start : Int32), ∃ (n_h0_end : Int32), ∃ (n_h0_sort : Int32), ∃ (n_h0_sign : Int32), ((0 : Int) ≤ (n_h0_at).toInt ∧ (n_h0_at).toInt ≤ (700 : Int)) ∧ ((0 : Int) ≤ (n_h0_start).toInt ∧ (n_h0_start).toInt ≤ (700 : Int)) ∧ ((0 : Int) ≤ (n_h0_end).toInt ∧ (n_h0_end).toInt ≤ (700 : Int)) ∧ (f_run f_bl fh1 p1.toInt (0 : Int) n_h0_start.toInt) ∧ (f_C fh1 p1.toInt n_h0_sort.toInt n_h0_sign.toInt n_h0_start.toInt n_h0_end.toInt) ∧ (n_h0_at.toInt = n_h0_end.toInt ∧ n_h0_end.toInt ≤ p1.toInt ∧ n_h0_start.toInt ≤ n_h0_end.toInt) ∧ (f_pg n_h0_sort.toInt n_h0_start.toInt n_h0_end.toInt) ∧ va_P (dC, dI) vwCl [(h0, .inr (10, [.ref h1, .int p1, .int n_h0_at, .int 1, .int 0, .int n_h0_start, .int n_h0_end, .int n_h0_sort, .int n_h0_sign, .int 0, .int (-1)])), (h1, .inl (ch1, 700, .inl fh1))] t.heap ∧ va_K (dC, dI) vwCl [] t ∧ va_D (va_A [(h0, .inr (10, [.ref h1, .int tt, .int ta, .int tj, .int tf, .int ts, .int te, .int to, .int tg, .int tx, .int ty])), (h1, .inl (ch1, 700, .inl fh1))] sz) [(h0, .inr (10, [.ref h1, .int p1, .int n_h0_at, .int 1, .int 0, .int n_h0_start, .int n_h0_end, .int n_h0_sort, .int n_h0_sign, .int 0, .int (-1)])), (h1, .inl (ch1, 700, .inl fh1))]) (va_A [(h0, .inr (10, [.ref h1, .int tt, .int ta, .int tj, .int tf, .int ts, .int te, .int to, .int tg, .int tx, .int ty])), (h1, .inl (ch1, 700, .inl fh1))] sz)) 0 0 (va_A [(h0, .inr (10, [.ref h1, .int tt, .int ta, .int tj, .int tf, .int ts, .int te, .int to, .int tg, .int tx, .int ty])), (h1, .inl (ch1, 700, .inl fh1))] sz) := by
  refine Met.ofW (cc := cX10_open) (maxL := 3) (ret := none) (by decide) rfl ?_
  intro p e s m args below meth c s₁ B hml hv
  obtain ⟨rfl, hsz, hP, hK, hD0⟩ := hv
  have hx := B.exec
  have hb := B.bytes
  have hr := B.returns
  have hts := atoms_spec (ws := u_s_X10_open3) B.pre
  have hown : s.vm.findClass RX10 = some m.cls := findClass_of_methodNamed B.named
  have hlocks := B.notSynchronized
  subst hsz
  have hD := hD0.self (sz := s.heap.size)
  generalize hAe : va_A [(h0, .inr (10, [.ref h1, .int tt, .int ta, .int tj, .int tf, .int ts, .int te, .int to, .int tg, .int tx, .int ty])), (h1, .inl (ch1, 700, .inl fh1))] s.heap.size = A at hD ⊢
  have hA : ∀ q : Nat, s.heap.size ≤ q → A q := fun q h => by rw [← hAe]; exact Or.inr h
  have hS : va_S A s.heap s.heap [] := va_S.rf
  have hP : va_P (dC, dI) vwCl [(h0, .inr (10, [.ref h1, .int tt, .int ta, .int tj, .int tf, .int ts, .int te, .int to, .int tg, .int tx, .int ty])), (h1, .inl (ch1, 700, .inl fh1))] s.heap := hP
  have w__fieldLink_RX10_15_ShellHeap_Tape_text_I_ := hts (.fieldLink RX10 15 "ShellHeap$Tape" "text" "I") (z_mc (z_ml z_m0))
  have hiX10 := show ∀ w ∈ u_ws RX10 TX10 11, w ∈ u_s_X10_open3 from fun w h => z_mc (z_mr (z_ml h))
  have w__fieldLink_RX10_22_ShellHeap_Tape_digitsJoin_Z_ := hts (.fieldLink RX10 22 "ShellHeap$Tape" "digitsJoin" "Z") (z_mc (z_ml z_m1))
  have w__fieldLink_RX10_26_ShellHeap_Tape_fed_I_ := hts (.fieldLink RX10 26 "ShellHeap$Tape" "fed" "I") (z_mc (z_ml z_m2))
  have w__fieldLink_RX10_19_ShellHeap_Tape_at_I_ := hts (.fieldLink RX10 19 "ShellHeap$Tape" "at" "I") (z_mc (z_ml z_m3))
  have w__fieldLink_RX10_41_ShellHeap_Tape_faultSort_I_ := hts (.fieldLink RX10 41 "ShellHeap$Tape" "faultSort" "I") (z_mc (z_ml z_m4))
  have w__fieldLink_RX10_44_ShellHeap_Tape_faultPlace_I_ := hts (.fieldLink RX10 44 "ShellHeap$Tape" "faultPlace" "I") (z_mc (z_ml z_m5))
  have hl := lv_entry ([.ref h0, .int p1, .int 1]) (n := 3) (Nat.le_of_ble_eq_true rfl)
  rw [lg_entry_eq]
  generalize (lg_sl ([.ref h0, .int p1, .int 1]) ++ List.replicate (3 - (lg_sl ([.ref h0, .int p1, .int 1])).length) Slot.unset).toArray = ls at hl ⊢
  have hl : lv_has ls 3 [(0, .ref h0), (1, .int p1), (2, .int 1)] := hl
  refine lv_aload_n hx hb dX10_open_0 rfl (lv_at hl 0 rfl) ?_
  refine lv_iload_n hx hb dX10_open_1 rfl (lv_at hl 1 rfl) ?_
  refine va_put (D := (dC, dI)) (ci := 10) (v := .int p1) (ty := .int) (C := RX10) (T := TX10) (N := 11) hx hb hts hiX10 tyX10 tyX10_ok nmX10 hown hK hP hD hS 0 rfl rfl 1 (by decide) w__fieldLink_RX10_15_ShellHeap_Tape_text_I_ (fun _ h9 => h9) rfl (by decide +kernel) rfl rfl (Nat.le_of_ble_eq_true rfl) dX10_open_2 (fun H_1 locs hP hD hS => ?_)
  obtain ⟨hP, hD⟩ := z_s_0_1 hP hD
  refine lv_aload_n hx hb dX10_open_5 rfl (lv_at hl 0 rfl) ?_
  refine lv_iload_n hx hb dX10_open_6 rfl (lv_at hl 2 rfl) ?_
  refine va_put (D := (dC, dI)) (ci := 10) (v := .int 1) (ty := .boolean) (C := RX10) (T := TX10) (N := 11) hx hb hts hiX10 tyX10 tyX10_ok nmX10 hown hK hP hD hS 0 rfl rfl 3 (by decide) w__fieldLink_RX10_22_ShellHeap_Tape_digitsJoin_Z_ (fun _ h9 => h9) rfl (by decide +kernel) rfl rfl (Nat.le_of_ble_eq_true rfl) dX10_open_7 (fun H_2 locs hP hD hS => ?_)
  obtain ⟨hP, hD⟩ := z_s_0_3 hP hD
  refine lv_aload_n hx hb dX10_open_10 rfl (lv_at hl 0 rfl) ?_
  refine lv_iconst (v := 0) hx hb dX10_open_11 (by decide) ?_
  refine va_put (D := (dC, dI)) (ci := 10) (v := .int 0) (ty := .int) (C := RX10) (T := TX10) (N := 11) hx hb hts hiX10 tyX10 tyX10_ok nmX10 hown hK hP hD hS 0 rfl rfl 4 (by decide) w__fieldLink_RX10_26_ShellHeap_Tape_fed_I_ (fun _ h9 => h9) rfl (by decide +kernel) rfl rfl (Nat.le_of_ble_eq_true rfl) dX10_open_12 (fun H_3 locs hP hD hS => ?_)
  obtain ⟨hP, hD⟩ := z_s_0_4 hP hD
  refine lv_aload_n hx hb dX10_open_15 rfl (lv_at hl 0 rfl) ?_
  refine lv_iconst (v := 0) hx hb dX10_open_16 (by decide) ?_
  refine va_put (D := (dC, dI)) (ci := 10) (v := .int 0) (ty := .int) (C := RX10) (T := TX10) (N := 11) hx hb hts hiX10 tyX10 tyX10_ok nmX10 hown hK hP hD hS 0 rfl rfl 2 (by decide) w__fieldLink_RX10_19_ShellHeap_Tape_at_I_ (fun _ h9 => h9) rfl (by decide +kernel) rfl rfl (Nat.le_of_ble_eq_true rfl) dX10_open_17 (fun H_4 locs hP hD hS => ?_)
  obtain ⟨hP, hD⟩ := z_s_0_2 hP hD
  refine lv_aload_n hx hb dX10_open_20 rfl (lv_at hl 0 rfl) ?_
  refine lv_iconst (v := 0) hx hb dX10_open_21 (by decide) ?_
  refine va_put (D := (dC, dI)) (ci := 10) (v := .int 0) (ty := .int) (C := RX10) (T := TX10) (N := 11) hx hb hts hiX10 tyX10 tyX10_ok nmX10 hown hK hP hD hS 0 rfl rfl 9 (by decide) w__fieldLink_RX10_41_ShellHeap_Tape_faultSort_I_ (fun _ h9 => h9) rfl (by decide +kernel) rfl rfl (Nat.le_of_ble_eq_true rfl) dX10_open_22 (fun H_5 locs hP hD hS => ?_)
  obtain ⟨hP, hD⟩ := z_s_0_9 hP hD
  refine lv_aload_n hx hb dX10_open_25 rfl (lv_at hl 0 rfl) ?_
  refine lv_iconst (v := (-1)) hx hb dX10_open_26 (by decide) ?_
  refine va_put (D := (dC, dI)) (ci := 10) (v := .int (-1)) (ty := .int) (C := RX10) (T := TX10) (N := 11) hx hb hts hiX10 tyX10 tyX10_ok nmX10 hown hK hP hD hS 0 rfl rfl 10 (by decide) w__fieldLink_RX10_44_ShellHeap_Tape_faultPlace_I_ (fun _ h9 => h9) rfl (by decide +kernel) rfl rfl (Nat.le_of_ble_eq_true rfl) dX10_open_27 (fun H_6 locs hP hD hS => ?_)
  obtain ⟨hP, hD⟩ := z_s_0_10 hP hD
  refine lv_aload_n hx hb dX10_open_30 rfl (lv_at hl 0 rfl) ?_
  have hPc := hP
  have hDc := hD
  have hKc := hK
  have hFc := z_freeI hD hS hA
  refine va_callv (va_runV (As := []) (rest := []) ⟨hx, hb, hml, hown, hts⟩ (s_X10_next3 l dC dI H_6.size h0 h1 p1 0 0 ts te to tg 0 (-1) ch1 fh1 hB_p1 (by decide) (by decide) hB_ts hB_te hI_h1 (show (0 : Int) ≤ p1.toInt by first | omega | decide)) (cwV 0 hts gw_s_X10_open3_s_X10_next3_47 rfl rfl rfl (by decide +kernel) ⟨Nat.le_of_ble_eq_true rfl, Nat.le_of_ble_eq_true rfl⟩) ⟨z_blind, va_recv hKc hPc (ci := 10) (q0 := 0) rfl rfl, z_pre hPc hKc hDc⟩ rfl rfl hl.1 rfl (lv_room (Nat.le_of_ble_eq_true rfl)) dX10_open_31 ⟨Nat.le_of_ble_eq_true rfl, Nat.le_of_ble_eq_true rfl⟩) hS (fun q _ h => hFc q h) hFc (fun u t H_7 locs ht hvm hw_9 hB hz1 hk1 hS => ?_)
  obtain ⟨n_h0_at_10, n_h0_start_11, n_h0_end_12, n_h0_sort_13, n_h0_sign_14, hp_15, hp_16, hp_17, hp_18, hp_19, hp_20, hp_21, hP1, hK1, hD1⟩ := hB
  rw [ht] at hP1
  have hK1 := va_K.moved hvm.symm hK1
  obtain ⟨hP, hD⟩ := z_ap_0 (va_join (wr := []) hP hD [0, 1] [] rfl rfl (by decide) (by decide) hk1 hFc hP1 hD1)
  have hp_18 : f_run f_bl fh1 p1.toInt (0 : Int) n_h0_start_11.toInt := hp_18
  have hp_19 : f_C fh1 p1.toInt n_h0_sort_13.toInt n_h0_sign_14.toInt n_h0_start_11.toInt n_h0_end_12.toInt := hp_19
  have hp_20 : n_h0_at_10.toInt = n_h0_end_12.toInt ∧ n_h0_end_12.toInt ≤ p1.toInt ∧ n_h0_start_11.toInt ≤ n_h0_end_12.toInt := hp_20
  have hp_21 : f_pg n_h0_sort_13.toInt n_h0_start_11.toInt n_h0_end_12.toInt := hp_21
  clear hPc hDc hKc
  have hP9 := hP
  have hD9 := hD
  have hK9 := hK.sub (tys' := []) [] rfl
  refine W.widen (k := 0) (n := 0) (Nat.le_of_ble_eq_true rfl) (Nat.le_of_ble_eq_true rfl) ?_
  exact W.vret hx hb hr (fun t ht hW => ⟨⟨(), rfl, trivial, ⟨n_h0_at_10, n_h0_start_11, n_h0_end_12, n_h0_sort_13, n_h0_sign_14, hp_15, hp_16, hp_17, (show f_run f_bl fh1 p1.toInt (0 : Int) n_h0_start_11.toInt from hp_18), (show f_C fh1 p1.toInt n_h0_sort_13.toInt n_h0_sign_14.toInt n_h0_start_11.toInt n_h0_end_12.toInt from hp_19), (show n_h0_at_10.toInt = n_h0_end_12.toInt ∧ n_h0_end_12.toInt ≤ p1.toInt ∧ n_h0_start_11.toInt ≤ n_h0_end_12.toInt by omega), (show f_pg n_h0_sort_13.toInt n_h0_start_11.toInt n_h0_end_12.toInt from hp_21), by rw [ht]; exact hP9, va_K.moved hW.alike hK9, hD9⟩⟩, hS.F ht⟩) hS.2.2 dX10_open_34
def u_s_X12_digits3 : List Cond := .code yX12_digits cX12_digits 1 none :: ([.fieldLink RX12 214 "ShellHeapModel" "which" "I", .fieldLink RX12 207 "ShellHeapModel" "next" "I", .methodLink RX12 217 yX12_isDigit, .instanceMethod yX12_isDigit, .selects RX12 yX12_isDigit yX12_isDigit, .initialized RX12, .constant RX12 220 (99999), .fieldLink RX12 7 "ShellHeapModel" "tape" "[I"] ++ (wsX120 ++ (u_s_X12_isDigit ++ [])))
theorem gd_s_X12_digits3 : z_gd u_s_X12_digits3 := z_gdc (by decide +kernel) (z_gda gdX12 (z_gda gd_s_X12_isDigit (z_gd0)))
set_option maxRecDepth 20000 in
theorem gw_s_X12_digits3_s_X12_isDigit_217 : GoodIn u_s_X12_digits3 (wsV RX12 217 RX12 yX12_isDigit u_s_X12_isDigit) := z_gV (z_gr _ [3, 4, 5, 6] rfl (by decide +kernel)) (fun w h => ⟨z_mc (z_mr (z_mr (z_ml h))), gd_s_X12_isDigit w h⟩)
set_option maxHeartbeats 4000000 in
set_option maxRecDepth 100000 in
theorem s_X12_digits3 (l : Launch) (dC : Nat → ClassId) (dI : Nat → Nat → Nat) (sz : Nat) (h0 : Nat) (a_te : Nat) (h0_1 : Value) (h0_2 : Value) (h0_3 : Value) (h0_4 : Value) (h0_5 : Value) (h0_6 : Value) (h0_7 : Value) (h0_8 : Value) (h0_9 : Value) (h0_10 : Value) (h0_11 : Value) (h0_12 : Value) (h0_13 : Value) (h0_14 : Value) (h0_15 : Value) (h0_16 : Value) (h0_17 : Value) (h0_18 : Value) (h0_19 : Value) (h0_20 : Value) (h0_21 : Value) (h0_22 : Value) (h0_23 : Value) (h0_24 : Value) (h0_25 : Value) (h0_26 : Value) (a_wd : Nat) (mf : Int32) (mfp : Int32) (mst : Int32) (mnx : Int32) (mkd : Int32) (mwh : Int32) (mpl : Int32) (h0_35 : Value) (h0_36 : Value) (h0_37 : Value) (h0_38 : Value) (h0_39 : Value) (h0_40 : Value) (h0_41 : Value) (h0_42 : Value) (h0_43 : Value) (h0_44 : Value) (h0_45 : Value) (h0_46 : Value) (h0_47 : Value) (h0_48 : Value) (h0_49 : Value) (h0_50 : Value) (h0_51 : Value) (h0_52 : Value) (h0_53 : Value) (h0_54 : Value) (h0_55 : Value) (h0_56 : Value) (h0_57 : Value) (h0_58 : Value) (h0_59 : Value) (h0_60 : Value) (h0_61 : Value) (h0_62 : Value) (h0_63 : Value) (h0_64 : Value) (h0_65 : Value) (h0_66 : Value) (h0_67 : Value) (h0_68 : Value) (h0_69 : Value) (ca_te : ClassId) (fa_te : Nat → Int32) (hB_mst : ((0 : Int) ≤ (mst).toInt ∧ (mst).toInt ≤ (700 : Int))) (hB_mnx : ((0 : Int) ≤ (mnx).toInt ∧ (mnx).toInt ≤ (700 : Int))) (hB_mkd : ((0 : Int) ≤ (mkd).toInt ∧ (mkd).toInt ≤ (7 : Int))) (hB_mpl : ((0 : Int) ≤ (mpl).toInt ∧ (mpl).toInt ≤ (700 : Int))) (hI_a_te : ∀ j : Nat, ((0 : Int) ≤ (fa_te j).toInt ∧ (fa_te j).toInt ≤ (255 : Int))) (hdg : (mnx.toInt < mst.toInt ∧ 48 ≤ (fa_te mnx.toNatClampNeg).toInt ∧ (fa_te mnx.toNatClampNeg).toInt ≤ 57)) : Met l yX12_digits u_s_X12_digits3 ({ frames := 1, cells := 0, slots := 0, locals := 21 }) (va_Pc [.ref h0] (z_C (dC, dI) vwCl [(h0, .inr (12, [.ref a_te, h0_1, h0_2, h0_3, h0_4, h0_5, h0_6, h0_7, h0_8, h0_9, h0_10, h0_11, h0_12, h0_13, h0_14, h0_15, h0_16, h0_17, h0_18, h0_19, h0_20, h0_21, h0_22, h0_23, h0_24, h0_25, h0_26, .ref a_wd, .int mf, .int mfp, .int mst, .int mnx, .int mkd, .int mwh, .int mpl, h0_35, h0_36, h0_37, h0_38, h0_39, h0_40, h0_41, h0_42, h0_43, h0_44, h0_45, h0_46, h0_47, h0_48, h0_49, h0_50, h0_51, h0_52, h0_53, h0_54, h0_55, h0_56, h0_57, h0_58, h0_59, h0_60, h0_61, h0_62, h0_63, h0_64, h0_65, h0_66, h0_67, h0_68, h0_69])), (a_te, .inl (ca_te, 700, .inl fa_te))] [(ca_te, .int)] sz)) (va_Qv (fun (_ : Unit) => True) (fun (_ : Unit) (t : State) => ∃ (n_h0_next : Int32), ∃ (n_h0_which : Int32), ((0 : Int) ≤ (n_h0_next).toInt ∧ (n_h0_next).toInt ≤ (700 : Int)) ∧ ((0 : Int) ≤ (n_h0_which).toInt ∧ (n_h0_which).toInt ≤ (1000200 : Int)) ∧ (mnx.toInt + 1 ≤ n_h0_next.toInt ∧ n_h0_next.toInt ≤ mst.toInt) ∧ (f_run f_di fa_te mst.toInt mnx.toInt n_h0_next.toInt) ∧ (f_v n_h0_which.toInt = f_v (f_nm fa_te mnx.toInt n_h0_next.toInt)) ∧ va_P (dC, dI) vwCl [(h0, .inr (12, [.ref a_te, h0_1, h0_2, h0_3, h0_4, h0_5, h0_6, h0_7, h0_8, h0_9, h0_10, h0_11, h0_12, h0_13, h0_14, h0_15, h0_16, h0_17, h0_18, h0_19, h0_20, h0_21, h0_22, h0_23, h0_24, h0_25, h0_26, .ref a_wd, .int mf, .int mfp, .int mst, .int n_h0_next, .int mkd, .int n_h0_which, .int mpl, h0_35, h0_36, h0_37, h0_38, h0_39, h0_40, h0_41, h0_42, h0_43, h0_44, h0_45, h0_46, h0_47, h0_48, h0_49, h0_50, h0_51, h0_52, h0_53, h0_54, h0_55, h0_56, h0_57, h0_58, h0_59, h0_60, h0_61, h0_62, h0_63, h0_64, h0_65, h0_66, h0_67, h0_68, h0_69])), (a_te, .inl (ca_te, 700, .inl fa_te))] t.heap ∧ va_K (dC, dI) vwCl [] t ∧ va_D (va_A [(h0, .inr (12, [.ref a_te, h0_1, h0_2, h0_3, h0_4, h0_5, h0_6, h0_7, h0_8, h0_9, h0_10, h0_11, h0_12, h0_13, h0_14, h0_15, h0_16, h0_17, h0_18, h0_19, h0_20, h0_21, h0_22, h0_23, h0_24, h0_25, h0_26, .ref a_wd, .int mf, .int mfp, .int mst, .int mnx, .int mkd, .int mwh, .int mpl, h0_35, h0_36, h0_37, h0_38, h0_39, h0_40, h0_41, h0_42, h0_43, h0_44, h0_45, h0_46, h0_47, h0_48, h0_49, h0_50, h0_51, h0_52, h0_53, h0_54, h0_55, h0_56, h0_57, h0_58, h0_59, h0_60, h0_61, h0_62, h0_63, h0_64, h0_65, h0_66, h0_67, h0_68, h0_69])), (a_te, .inl (ca_te, 700, .inl fa_te))] sz) [(h0, .inr (12, [.ref a_te, h0_1, h0_2, h0_3, h0_4, h0_5, h0_6, h0_7, h0_8, h0_9, h0_10, h0_11, h0_12, h0_13, h0_14, h0_15, h0_16, h0_17, h0_18, h0_19, h0_20, h0_21, h0_22, h0_23, h0_24, h0_25, h0_26, .ref a_wd, .int mf, .int mfp, .int mst, .int n_h0_next, .int mkd, .int n_h0_which, .int mpl, h0_35, h0_36, h0_37, h0_38, h0_39, h0_40, h0_41, h0_42, h0_43, h0_44, h0_45, h0_46, h0_47, h0_48, h0_49, h0_50, h0_51, h0_52, h0_53, h0_54, h0_55, h0_56, h0_57, h0_58, h0_59, h0_60, h0_61, h0_62, h0_63, h0_64, h0_65, h0_66, h0_67, h0_68, h0_69])), (a_te, .inl (ca_te, 700, .inl fa_te))]) (va_A [(h0, .inr (12, [.ref a_te, h0_1, h0_2, h0_3, h0_4, h0_5, h0_6, h0_7, h0_8, h0_9, h0_10, h0_11, h0_12, h0_13, h0_14, h0_15, h0_16, h0_17, h0_18, h0_19, h0_20, h0_21, h0_22, h0_23, h0_24, h0_25, h0_26, .ref a_wd, .int mf, .int mfp, .int mst, .int mnx, .int mkd, .int mwh, .int mpl, h0_35, h0_36, h0_37, h0_38, h0_39, h0_40, h0_41, h0_42, h0_43, h0_44, h0_45, h0_46, h0_47, h0_48, h0_49, h0_50, h0_51, h0_52, h0_53, h0_54, h0_55, h0_56, h0_57, h0_58, h0_59, h0_60, h0_61, h0_62, h0_63, h0_64, h0_65, h0_66, h0_67, h0_68, h0_69])), (a_te, .inl (ca_te, 700, .inl fa_te))] sz)) 0 0 (va_A [(h0, .inr (12, [.ref a_te, h0_1, h0_2, h0_3, h0_4, h0_5, h0_6, h0_7, h0_8, h0_9, h0_10, h0_11, h0_12, h0_13, h0_14, h0_15, h0_16, h0_17, h0_18, h0_19, h0_20, h0_21, h0_22, h0_23, h0_24, h0_25, h0_26, .ref a_wd, .int mf, .int mfp, .int mst, .int mnx, .int mkd, .int mwh, .int mpl, h0_35, h0_36, h0_37, h0_38, h0_39, h0_40, h0_41, h0_42, h0_43, h0_44, h0_45, h0_46, h0_47, h0_48, h0_49, h0_50, h0_51, h0_52, h0_53, h0_54, h0_55, h0_56, h0_57, h0_58, h0_59, h0_60, h0_61, h0_62, h0_63, h0_64, h0_65, h0_66, h0_67, h0_68, h0_69])), (a_te, .inl (ca_te, 700, .inl fa_te))] sz) := by
  refine Met.ofW (cc := cX12_digits) (maxL := 1) (ret := none) (by decide) rfl ?_
  intro p e s m args below meth c s₁ B hml hv
  obtain ⟨rfl, hsz, hP, hK, hD0⟩ := hv
  have hx := B.exec
  have hb := B.bytes
  have hr := B.returns
  have hts := atoms_spec (ws := u_s_X12_digits3) B.pre
  have hown : s.vm.findClass RX12 = some m.cls := findClass_of_methodNamed B.named
  have hlocks := B.notSynchronized
  subst hsz
  have hD := hD0.self (sz := s.heap.size)
  generalize hAe : va_A [(h0, .inr (12, [.ref a_te, h0_1, h0_2, h0_3, h0_4, h0_5, h0_6, h0_7, h0_8, h0_9, h0_10, h0_11, h0_12, h0_13, h0_14, h0_15, h0_16, h0_17, h0_18, h0_19, h0_20, h0_21, h0_22, h0_23, h0_24, h0_25, h0_26, .ref a_wd, .int mf, .int mfp, .int mst, .int mnx, .int mkd, .int mwh, .int mpl, h0_35, h0_36, h0_37, h0_38, h0_39, h0_40, h0_41, h0_42, h0_43, h0_44, h0_45, h0_46, h0_47, h0_48, h0_49, h0_50, h0_51, h0_52, h0_53, h0_54, h0_55, h0_56, h0_57, h0_58, h0_59, h0_60, h0_61, h0_62, h0_63, h0_64, h0_65, h0_66, h0_67, h0_68, h0_69])), (a_te, .inl (ca_te, 700, .inl fa_te))] s.heap.size = A at hD ⊢
  have hA : ∀ q : Nat, s.heap.size ≤ q → A q := fun q h => by rw [← hAe]; exact Or.inr h
  have hS : va_S A s.heap s.heap [] := va_S.rf
  have hP : va_P (dC, dI) vwCl [(h0, .inr (12, [.ref a_te, h0_1, h0_2, h0_3, h0_4, h0_5, h0_6, h0_7, h0_8, h0_9, h0_10, h0_11, h0_12, h0_13, h0_14, h0_15, h0_16, h0_17, h0_18, h0_19, h0_20, h0_21, h0_22, h0_23, h0_24, h0_25, h0_26, .ref a_wd, .int mf, .int mfp, .int mst, .int mnx, .int mkd, .int mwh, .int mpl, h0_35, h0_36, h0_37, h0_38, h0_39, h0_40, h0_41, h0_42, h0_43, h0_44, h0_45, h0_46, h0_47, h0_48, h0_49, h0_50, h0_51, h0_52, h0_53, h0_54, h0_55, h0_56, h0_57, h0_58, h0_59, h0_60, h0_61, h0_62, h0_63, h0_64, h0_65, h0_66, h0_67, h0_68, h0_69])), (a_te, .inl (ca_te, 700, .inl fa_te))] s.heap := hP
  have w__fieldLink_RX12_214_ShellHeapModel_which_I_ := hts (.fieldLink RX12 214 "ShellHeapModel" "which" "I") (z_mc (z_ml z_m0))
  have hiX12 := show ∀ w ∈ u_ws RX12 TX12 70, w ∈ u_s_X12_digits3 from fun w h => z_mc (z_mr (z_ml h))
  have w__fieldLink_RX12_207_ShellHeapModel_next_I_ := hts (.fieldLink RX12 207 "ShellHeapModel" "next" "I") (z_mc (z_ml z_m1))
  have w__constant_RX12_220_99999_ := hts (.constant RX12 220 (99999)) (z_mc (z_ml z_m6))
  have w__fieldLink_RX12_7_ShellHeapModel_tape_I_ := hts (.fieldLink RX12 7 "ShellHeapModel" "tape" "[I") (z_mc (z_ml z_m7))
  have hl := lv_entry ([.ref h0]) (n := 1) (Nat.le_of_ble_eq_true rfl)
  rw [lg_entry_eq]
  generalize (lg_sl ([.ref h0]) ++ List.replicate (1 - (lg_sl ([.ref h0])).length) Slot.unset).toArray = ls at hl ⊢
  have hl : lv_has ls 1 [(0, .ref h0)] := hl
  refine z_nameQ (fun QQ hQQ => ?_)
  refine lv_aload_n hx hb dX12_digits_0 rfl (lv_at hl 0 rfl) ?_
  refine lv_iconst (v := 0) hx hb dX12_digits_1 (by decide) ?_
  refine va_put (D := (dC, dI)) (ci := 12) (v := .int 0) (ty := .int) (C := RX12) (T := TX12) (N := 70) hx hb hts hiX12 tyX12 tyX12_ok nmX12 hown hK hP hD hS 0 rfl rfl 33 (by decide) w__fieldLink_RX12_214_ShellHeapModel_which_I_ (fun _ h9 => h9) rfl (by decide +kernel) rfl rfl (Nat.le_of_ble_eq_true rfl) dX12_digits_2 (fun H_1 locs hP hD hS => ?_)
  obtain ⟨hP, hD⟩ := z_s_0_33 hP hD
  have loop_2 : ∀ (n_3 : Nat) (v_5 : Int32) (v_6 : Int32) (H : Heap) (locs : List Loc) (ls : Array Slot), (701 - (v_5).toInt).toNat < n_3 → (((0 : Int) ≤ (v_5).toInt ∧ (v_5).toInt ≤ (700 : Int))) → (((0 : Int) ≤ (v_6).toInt ∧ (v_6).toInt ≤ (1000200 : Int))) → (f_pre f_di fa_te (mst).toInt (mnx).toInt (v_5).toInt) → (f_v (v_6).toInt = f_v (f_nm fa_te (mnx).toInt (v_5).toInt)) → ((mnx).toInt ≤ (v_5).toInt ∧ (v_5).toInt ≤ (mst).toInt) → ((mnx).toInt + 1 ≤ (v_5).toInt ∨ ((v_5).toInt < (mst).toInt ∧ 48 ≤ (fa_te (v_5 : Int32).toNatClampNeg).toInt ∧ (fa_te (v_5 : Int32).toNatClampNeg).toInt ≤ 57)) → va_P (dC, dI) vwCl [(h0, .inr (12, [.ref a_te, h0_1, h0_2, h0_3, h0_4, h0_5, h0_6, h0_7, h0_8, h0_9, h0_10, h0_11, h0_12, h0_13, h0_14, h0_15, h0_16, h0_17, h0_18, h0_19, h0_20, h0_21, h0_22, h0_23, h0_24, h0_25, h0_26, .ref a_wd, .int mf, .int mfp, .int mst, .int v_5, .int mkd, .int v_6, .int mpl, h0_35, h0_36, h0_37, h0_38, h0_39, h0_40, h0_41, h0_42, h0_43, h0_44, h0_45, h0_46, h0_47, h0_48, h0_49, h0_50, h0_51, h0_52, h0_53, h0_54, h0_55, h0_56, h0_57, h0_58, h0_59, h0_60, h0_61, h0_62, h0_63, h0_64, h0_65, h0_66, h0_67, h0_68, h0_69])), (a_te, .inl (ca_te, 700, .inl fa_te))] H → va_D A [(h0, .inr (12, [.ref a_te, h0_1, h0_2, h0_3, h0_4, h0_5, h0_6, h0_7, h0_8, h0_9, h0_10, h0_11, h0_12, h0_13, h0_14, h0_15, h0_16, h0_17, h0_18, h0_19, h0_20, h0_21, h0_22, h0_23, h0_24, h0_25, h0_26, .ref a_wd, .int mf, .int mfp, .int mst, .int v_5, .int mkd, .int v_6, .int mpl, h0_35, h0_36, h0_37, h0_38, h0_39, h0_40, h0_41, h0_42, h0_43, h0_44, h0_45, h0_46, h0_47, h0_48, h0_49, h0_50, h0_51, h0_52, h0_53, h0_54, h0_55, h0_56, h0_57, h0_58, h0_59, h0_60, h0_61, h0_62, h0_63, h0_64, h0_65, h0_66, h0_67, h0_68, h0_69])), (a_te, .inl (ca_te, 700, .inl fa_te))] → va_S A s.heap H locs → lv_has ls 1 [(0, .ref h0)] → W p l e ({ frames := 1, cells := 0, slots := 0, locals := 21 } : Room) s m ([.ref h0] : List Value).toArray below meth c H locs 0 0 QQ (F0 m 5 ls []) := by
    intro n_3
    induction n_3 with
    | zero => intro v_5 v_6 H locs ls hm; exact absurd hm (Nat.not_lt_zero _)
    | succ n_3 ih_4 =>
      intro v_5 v_6 H locs ls hm hF_7 hF_8 hF_9 hF_10 hF_11 hF_12 hP hD hS hl
      refine lv_aload_n hx hb dX12_digits_5 rfl (lv_at hl 0 rfl) ?_
      refine lv_aload_n hx hb dX12_digits_6 rfl (lv_at hl 0 rfl) ?_
      refine va_get (D := (dC, dI)) (ci := 12) (v := .int v_5) (C := RX12) (T := TX12) (N := 70) hx hb hts hiX12 hown hK hP 0 rfl rfl 31 (by decide) w__fieldLink_RX12_207_ShellHeapModel_next_I_ (fun _ h9 => h9) rfl dX12_digits_7 ?_
      have hPc := hP
      have hDc := hD
      have hKc := hK
      have hFc := va_free (ws := []) (wc := []) (z_D0 _) hS hA [] rfl
      refine va_calli (va_runV (As := [.int v_5]) (rest := []) ⟨hx, hb, hml, hown, hts⟩ (s_X12_isDigit l dC dI H.size h0 v_5 a_te h0_1 h0_2 h0_3 h0_4 h0_5 h0_6 h0_7 h0_8 h0_9 h0_10 h0_11 h0_12 h0_13 h0_14 h0_15 h0_16 h0_17 h0_18 h0_19 h0_20 h0_21 h0_22 h0_23 h0_24 h0_25 h0_26 a_wd mf mfp mst v_5 mkd v_6 mpl h0_35 h0_36 h0_37 h0_38 h0_39 h0_40 h0_41 h0_42 h0_43 h0_44 h0_45 h0_46 h0_47 h0_48 h0_49 h0_50 h0_51 h0_52 h0_53 h0_54 h0_55 h0_56 h0_57 h0_58 h0_59 h0_60 h0_61 h0_62 h0_63 h0_64 h0_65 h0_66 h0_67 h0_68 h0_69 ca_te fa_te hB_mst hF_7 hB_mkd hB_mpl hF_7 hI_a_te) (cwV 1 hts gw_s_X12_digits3_s_X12_isDigit_217 rfl rfl rfl (by decide +kernel) ⟨Nat.le_of_ble_eq_true rfl, Nat.le_of_ble_eq_true rfl⟩) ⟨z_blind, va_recv hKc hPc (ci := 12) (q0 := 0) rfl rfl, z_pre hPc hKc hDc⟩ rfl rfl hl.1 rfl (lv_room (Nat.le_of_ble_eq_true rfl)) dX12_digits_10 ⟨Nat.le_of_ble_eq_true rfl, Nat.le_of_ble_eq_true rfl⟩) hS (fun q _ h => hFc q h) hFc (fun r_14 u t H_13 locs ht hvm hw_15 hB hz1 hk1 hS => ?_)
      replace hP := z_pure hP hk1
      clear hPc hDc hKc
      rcases hw_15 with ⟨rfl, hw_15⟩ | ⟨rfl, hw_15⟩
      · have hw_15 : (v_5.toInt < mst.toInt ∧ 48 ≤ (fa_te v_5.toNatClampNeg).toInt ∧ (fa_te v_5.toNatClampNeg).toInt ≤ 57) := hw_15
        refine lv_if_eq (tgt := 69) hx hb dX12_digits_13 (by decide) (fun c_16 => absurd c_16 (by decide)) (fun _ => ?_)
        refine lv_aload_n hx hb dX12_digits_16 rfl (lv_at hl 0 rfl) ?_
        refine lv_aload_n hx hb dX12_digits_17 rfl (lv_at hl 0 rfl) ?_
        refine va_get (D := (dC, dI)) (ci := 12) (v := .int v_6) (C := RX12) (T := TX12) (N := 70) hx hb hts hiX12 hown hK hP 0 rfl rfl 33 (by decide) w__fieldLink_RX12_214_ShellHeapModel_which_I_ (fun _ h9 => h9) rfl dX12_digits_18 ?_
        refine lv_ldc (v := 99999) hx hb hown w__constant_RX12_220_99999_ dX12_digits_21 ?_
        refine lv_icmp_le (tgt := 33) hx hb dX12_digits_23 (by decide) (fun c_17 => ?_) (fun c_17 => ?_)
        · have k_18 : (v_6).toInt ≤ (99999 : Int) := z_le c_17
          refine lv_bipush (v := 10) hx hb dX12_digits_33 (by decide) ?_
          refine lv_aload_n hx hb dX12_digits_35 rfl (lv_at hl 0 rfl) ?_
          refine va_get (D := (dC, dI)) (ci := 12) (v := .int v_6) (C := RX12) (T := TX12) (N := 70) hx hb hts hiX12 hown hK hP 0 rfl rfl 33 (by decide) w__fieldLink_RX12_214_ShellHeapModel_which_I_ (fun _ h9 => h9) rfl dX12_digits_36 ?_
          refine lv_imul hx hb dX12_digits_39 ?_
          refine lv_topi (fun z_19 ez_19 => ?_)
          have kz_19 : (z_19).toInt = (10 : Int) * (v_6).toInt := by rw [ez_19]; exact z_mul (a := (10 : Int)) (b := (v_6).toInt) rfl rfl (by omega) (by omega)
          refine lv_aload_n hx hb dX12_digits_40 rfl (lv_at hl 0 rfl) ?_
          refine va_get (D := (dC, dI)) (ci := 12) (v := .ref a_te) (C := RX12) (T := TX12) (N := 70) hx hb hts hiX12 hown hK hP 0 rfl rfl 0 (by decide) w__fieldLink_RX12_7_ShellHeapModel_tape_I_ (fun _ h9 => h9) rfl dX12_digits_41 ?_
          refine lv_aload_n hx hb dX12_digits_44 rfl (lv_at hl 0 rfl) ?_
          refine va_get (D := (dC, dI)) (ci := 12) (v := .int v_5) (C := RX12) (T := TX12) (N := 70) hx hb hts hiX12 hown hK hP 0 rfl rfl 31 (by decide) w__fieldLink_RX12_207_ShellHeapModel_next_I_ (fun _ h9 => h9) rfl dX12_digits_45 ?_
          refine va_iald hx hb hK hP 1 0 rfl rfl (z_vpin (by omega) (by omega)) dX12_digits_48 ?_
          refine lv_topi (fun z_20 ez_20 => ?_)
          have kz_20 : ((0 : Int) ≤ (z_20).toInt ∧ (z_20).toInt ≤ (255 : Int)) := by rw [ez_20]; exact hI_a_te _
          have kxz_20 : (z_20).toInt = (fa_te (v_5 : Int32).toNatClampNeg).toInt := by rw [ez_20]
          have kyz_20 : 48 ≤ (z_20).toInt := by omega
          refine lv_iadd hx hb dX12_digits_49 ?_
          refine lv_topi (fun z_21 ez_21 => ?_)
          have kz_21 : (z_21).toInt = (z_19).toInt + (z_20).toInt := by rw [ez_21]; exact z_add (a := (z_19).toInt) (b := (z_20).toInt) rfl rfl (by omega) (by omega)
          refine lv_bipush (v := 48) hx hb dX12_digits_50 (by decide) ?_
          refine lv_isub hx hb dX12_digits_52 ?_
          refine lv_topi (fun z_22 ez_22 => ?_)
          have kz_22 : (z_22).toInt = (z_21).toInt - (48 : Int) := by rw [ez_22]; exact z_sub (a := (z_21).toInt) (b := (48 : Int)) rfl rfl (by omega) (by omega)
          refine va_put (D := (dC, dI)) (ci := 12) (v := .int z_22) (ty := .int) (C := RX12) (T := TX12) (N := 70) hx hb hts hiX12 tyX12 tyX12_ok nmX12 hown hK hP hD hS 0 rfl rfl 33 (by decide) w__fieldLink_RX12_214_ShellHeapModel_which_I_ (fun _ h9 => h9) rfl (by decide +kernel) rfl rfl (Nat.le_of_ble_eq_true rfl) dX12_digits_53 (fun H_23 locs hP hD hS => ?_)
          obtain ⟨hP, hD⟩ := z_s_0_33 hP hD
          refine lv_aload_n hx hb dX12_digits_56 rfl (lv_at hl 0 rfl) ?_
          refine lv_dup hx hb dX12_digits_57 rfl ?_
          refine va_get (D := (dC, dI)) (ci := 12) (v := .int v_5) (C := RX12) (T := TX12) (N := 70) hx hb hts hiX12 hown hK hP 0 rfl rfl 31 (by decide) w__fieldLink_RX12_207_ShellHeapModel_next_I_ (fun _ h9 => h9) rfl dX12_digits_58 ?_
          refine lv_iconst (v := 1) hx hb dX12_digits_61 (by decide) ?_
          refine lv_iadd hx hb dX12_digits_62 ?_
          refine lv_topi (fun z_24 ez_24 => ?_)
          have kz_24 : (z_24).toInt = (v_5).toInt + (1 : Int) := by rw [ez_24]; exact z_add (a := (v_5).toInt) (b := (1 : Int)) rfl rfl (z_al hF_7.1 (by decide)) (z_ah hF_7.2 (by decide))
          refine va_put (D := (dC, dI)) (ci := 12) (v := .int z_24) (ty := .int) (C := RX12) (T := TX12) (N := 70) hx hb hts hiX12 tyX12 tyX12_ok nmX12 hown hK hP hD hS 0 rfl rfl 31 (by decide) w__fieldLink_RX12_207_ShellHeapModel_next_I_ (fun _ h9 => h9) rfl (by decide +kernel) rfl rfl (Nat.le_of_ble_eq_true rfl) dX12_digits_63 (fun H_25 locs hP hD hS => ?_)
          obtain ⟨hP, hD⟩ := z_s_0_31 hP hD
          refine lv_goto (tgt := 5) hx hb dX12_digits_66 (by decide) ?_
          exact ih_4 z_24 z_22 _ _ _ (show (701 - (z_24).toInt).toNat < n_3 by omega) (show ((0 : Int) ≤ (z_24).toInt ∧ (z_24).toInt ≤ (700 : Int)) by omega) (show ((0 : Int) ≤ (z_22).toInt ∧ (z_22).toInt ≤ (1000200 : Int)) by omega) (show f_pre f_di fa_te (mst).toInt (mnx).toInt (z_24).toInt from f_pre1 (i := v_5) hF_9 (by omega) (by omega) (show f_di _ from ⟨hw_15.2.1, hw_15.2.2⟩) (by omega)) (show f_v (z_22).toInt = f_v (f_nm fa_te (mnx).toInt (z_24).toInt) from f_v_s2 (i := v_5) hF_9 hF_10 (by omega) (show f_di _ from ⟨hw_15.2.1, hw_15.2.2⟩) ez_20 (by omega) (by omega)) (show (mnx).toInt ≤ (z_24).toInt ∧ (z_24).toInt ≤ (mst).toInt by omega) (show (mnx).toInt + 1 ≤ (z_24).toInt ∨ ((z_24).toInt < (mst).toInt ∧ 48 ≤ (fa_te (z_24 : Int32).toNatClampNeg).toInt ∧ (fa_te (z_24 : Int32).toNatClampNeg).toInt ≤ 57) by omega) hP hD hS (lv_sub hl [0] rfl)
        · have k_26 : (v_6).toInt > (99999 : Int) := z_nle c_17
          refine lv_aload_n hx hb dX12_digits_26 rfl (lv_at hl 0 rfl) ?_
          refine va_get (D := (dC, dI)) (ci := 12) (v := .int v_6) (C := RX12) (T := TX12) (N := 70) hx hb hts hiX12 hown hK hP 0 rfl rfl 33 (by decide) w__fieldLink_RX12_214_ShellHeapModel_which_I_ (fun _ h9 => h9) rfl dX12_digits_27 ?_
          refine lv_goto (tgt := 53) hx hb dX12_digits_30 (by decide) ?_
          refine va_put (D := (dC, dI)) (ci := 12) (v := .int v_6) (ty := .int) (C := RX12) (T := TX12) (N := 70) hx hb hts hiX12 tyX12 tyX12_ok nmX12 hown hK hP hD hS 0 rfl rfl 33 (by decide) w__fieldLink_RX12_214_ShellHeapModel_which_I_ (fun _ h9 => h9) rfl (by decide +kernel) rfl rfl (Nat.le_of_ble_eq_true rfl) dX12_digits_53 (fun H_27 locs hP hD hS => ?_)
          obtain ⟨hP, hD⟩ := z_s_0_33 hP hD
          refine lv_aload_n hx hb dX12_digits_56 rfl (lv_at hl 0 rfl) ?_
          refine lv_dup hx hb dX12_digits_57 rfl ?_
          refine va_get (D := (dC, dI)) (ci := 12) (v := .int v_5) (C := RX12) (T := TX12) (N := 70) hx hb hts hiX12 hown hK hP 0 rfl rfl 31 (by decide) w__fieldLink_RX12_207_ShellHeapModel_next_I_ (fun _ h9 => h9) rfl dX12_digits_58 ?_
          refine lv_iconst (v := 1) hx hb dX12_digits_61 (by decide) ?_
          refine lv_iadd hx hb dX12_digits_62 ?_
          refine lv_topi (fun z_28 ez_28 => ?_)
          have kz_28 : (z_28).toInt = (v_5).toInt + (1 : Int) := by rw [ez_28]; exact z_add (a := (v_5).toInt) (b := (1 : Int)) rfl rfl (z_al hF_7.1 (by decide)) (z_ah hF_7.2 (by decide))
          refine va_put (D := (dC, dI)) (ci := 12) (v := .int z_28) (ty := .int) (C := RX12) (T := TX12) (N := 70) hx hb hts hiX12 tyX12 tyX12_ok nmX12 hown hK hP hD hS 0 rfl rfl 31 (by decide) w__fieldLink_RX12_207_ShellHeapModel_next_I_ (fun _ h9 => h9) rfl (by decide +kernel) rfl rfl (Nat.le_of_ble_eq_true rfl) dX12_digits_63 (fun H_29 locs hP hD hS => ?_)
          obtain ⟨hP, hD⟩ := z_s_0_31 hP hD
          refine lv_goto (tgt := 5) hx hb dX12_digits_66 (by decide) ?_
          exact ih_4 z_28 v_6 _ _ _ (show (701 - (z_28).toInt).toNat < n_3 by omega) (show ((0 : Int) ≤ (z_28).toInt ∧ (z_28).toInt ≤ (700 : Int)) by omega) (show ((0 : Int) ≤ (v_6).toInt ∧ (v_6).toInt ≤ (1000200 : Int)) by omega) (show f_pre f_di fa_te (mst).toInt (mnx).toInt (z_28).toInt from f_pre1 (i := v_5) hF_9 (by omega) (by omega) (show f_di _ from ⟨hw_15.2.1, hw_15.2.2⟩) (by omega)) (show f_v (v_6).toInt = f_v (f_nm fa_te (mnx).toInt (z_28).toInt) from f_v_s2 (i := v_5) hF_9 hF_10 (by omega) (show f_di _ from ⟨hw_15.2.1, hw_15.2.2⟩) rfl (by omega) (by omega)) (show (mnx).toInt ≤ (z_28).toInt ∧ (z_28).toInt ≤ (mst).toInt by omega) (show (mnx).toInt + 1 ≤ (z_28).toInt ∨ ((z_28).toInt < (mst).toInt ∧ 48 ≤ (fa_te (z_28 : Int32).toNatClampNeg).toInt ∧ (fa_te (z_28 : Int32).toNatClampNeg).toInt ≤ 57) by omega) hP hD hS (lv_sub hl [0] rfl)
      · have hw_15 : ¬ (v_5.toInt < mst.toInt ∧ 48 ≤ (fa_te v_5.toNatClampNeg).toInt ∧ (fa_te v_5.toNatClampNeg).toInt ≤ 57) := hw_15
        refine lv_if_eq (tgt := 69) hx hb dX12_digits_13 (by decide) (fun _ => ?_) (fun c_30 => absurd (by decide) c_30)
        refine z_backQ hQQ ?_
        have hP9 := hP
        have hD9 := hD
        have hK9 := hK.sub (tys' := []) [] rfl
        refine W.widen (k := 0) (n := 0) (Nat.le_of_ble_eq_true rfl) (Nat.le_of_ble_eq_true rfl) ?_
        exact W.vret hx hb hr (fun t ht hW => ⟨⟨(), rfl, trivial, ⟨v_5, v_6, hF_7, hF_8, (show mnx.toInt + 1 ≤ v_5.toInt ∧ v_5.toInt ≤ mst.toInt by omega), (show f_run f_di fa_te mst.toInt mnx.toInt v_5.toInt from f_run_of hF_9 (fun h8 h9 => hw_15 ⟨h8, h9.1, h9.2⟩)), (show f_v v_6.toInt = f_v (f_nm fa_te mnx.toInt v_5.toInt) from hF_10), by rw [ht]; exact hP9, va_K.moved hW.alike hK9, hD9⟩⟩, hS.F ht⟩) hS.2.2 dX12_digits_69
  exact loop_2 _ mnx 0 _ _ _ (Nat.lt_succ_self _) (show ((0 : Int) ≤ (mnx).toInt ∧ (mnx).toInt ≤ (700 : Int)) by omega) (show ((0 : Int) ≤ (0 : Int) ∧ (0 : Int) ≤ (1000200 : Int)) by omega) (show f_pre f_di fa_te (mst).toInt (mnx).toInt (mnx).toInt from f_pre0 (by omega)) (show f_v (0 : Int) = f_v (f_nm fa_te (mnx).toInt (mnx).toInt) from by rw [f_nm0]) (show (mnx).toInt ≤ (mnx).toInt ∧ (mnx).toInt ≤ (mst).toInt by omega) (show (mnx).toInt + 1 ≤ (mnx).toInt ∨ ((mnx).toInt < (mst).toInt ∧ 48 ≤ (fa_te (mnx : Int32).toNatClampNeg).toInt ∧ (fa_te (mnx : Int32).toNatClampNeg).toInt ≤ 57) by omega) hP hD hS hl
def u_s_X12_signOf3 : List Cond := .code yX12_signOf cX12_signOf 2 (some .int) :: ([.fieldLink RX12 207 "ShellHeapModel" "next" "I", .methodLink RX12 210 yX12_isAt, .instanceMethod yX12_isAt, .selects RX12 yX12_isAt yX12_isAt, .initialized RX12] ++ (wsX120 ++ (u_s_X12_isAt ++ [])))
theorem gd_s_X12_signOf3 : z_gd u_s_X12_signOf3 := z_gdc (by decide +kernel) (z_gda gdX12 (z_gda gd_s_X12_isAt (z_gd0)))
set_option maxRecDepth 20000 in
theorem gw_s_X12_signOf3_s_X12_isAt_210 : GoodIn u_s_X12_signOf3 (wsV RX12 210 RX12 yX12_isAt u_s_X12_isAt) := z_gV (z_gr _ [2, 3, 4, 5] rfl (by decide +kernel)) (fun w h => ⟨z_mc (z_mr (z_mr (z_ml h))), gd_s_X12_isAt w h⟩)
set_option maxHeartbeats 4000000 in
set_option maxRecDepth 100000 in
theorem s_X12_signOf3 (l : Launch) (dC : Nat → ClassId) (dI : Nat → Nat → Nat) (sz : Nat) (h0 : Nat) (p1 : Int32) (a_te : Nat) (h0_1 : Value) (h0_2 : Value) (h0_3 : Value) (h0_4 : Value) (h0_5 : Value) (h0_6 : Value) (h0_7 : Value) (h0_8 : Value) (h0_9 : Value) (h0_10 : Value) (h0_11 : Value) (h0_12 : Value) (h0_13 : Value) (h0_14 : Value) (h0_15 : Value) (h0_16 : Value) (h0_17 : Value) (h0_18 : Value) (h0_19 : Value) (h0_20 : Value) (h0_21 : Value) (h0_22 : Value) (h0_23 : Value) (h0_24 : Value) (h0_25 : Value) (h0_26 : Value) (a_wd : Nat) (mf : Int32) (mfp : Int32) (mst : Int32) (mnx : Int32) (mkd : Int32) (mwh : Int32) (mpl : Int32) (h0_35 : Value) (h0_36 : Value) (h0_37 : Value) (h0_38 : Value) (h0_39 : Value) (h0_40 : Value) (h0_41 : Value) (h0_42 : Value) (h0_43 : Value) (h0_44 : Value) (h0_45 : Value) (h0_46 : Value) (h0_47 : Value) (h0_48 : Value) (h0_49 : Value) (h0_50 : Value) (h0_51 : Value) (h0_52 : Value) (h0_53 : Value) (h0_54 : Value) (h0_55 : Value) (h0_56 : Value) (h0_57 : Value) (h0_58 : Value) (h0_59 : Value) (h0_60 : Value) (h0_61 : Value) (h0_62 : Value) (h0_63 : Value) (h0_64 : Value) (h0_65 : Value) (h0_66 : Value) (h0_67 : Value) (h0_68 : Value) (h0_69 : Value) (ca_te : ClassId) (fa_te : Nat → Int32) (hB_mst : ((0 : Int) ≤ (mst).toInt ∧ (mst).toInt ≤ (700 : Int))) (hB_mnx : ((0 : Int) ≤ (mnx).toInt ∧ (mnx).toInt ≤ (700 : Int))) (hB_mkd : ((0 : Int) ≤ (mkd).toInt ∧ (mkd).toInt ≤ (7 : Int))) (hB_mpl : ((0 : Int) ≤ (mpl).toInt ∧ (mpl).toInt ≤ (700 : Int))) (hB_p1 : ((0 : Int) ≤ (p1).toInt ∧ (p1).toInt ≤ (255 : Int))) (hI_a_te : ∀ j : Nat, ((0 : Int) ≤ (fa_te j).toInt ∧ (fa_te j).toInt ≤ (255 : Int))) : Met l yX12_signOf u_s_X12_signOf3 ({ frames := 1, cells := 0, slots := 0, locals := 22 }) (va_Pc [.ref h0, .int p1] (z_C (dC, dI) vwCl [(h0, .inr (12, [.ref a_te, h0_1, h0_2, h0_3, h0_4, h0_5, h0_6, h0_7, h0_8, h0_9, h0_10, h0_11, h0_12, h0_13, h0_14, h0_15, h0_16, h0_17, h0_18, h0_19, h0_20, h0_21, h0_22, h0_23, h0_24, h0_25, h0_26, .ref a_wd, .int mf, .int mfp, .int mst, .int mnx, .int mkd, .int mwh, .int mpl, h0_35, h0_36, h0_37, h0_38, h0_39, h0_40, h0_41, h0_42, h0_43, h0_44, h0_45, h0_46, h0_47, h0_48, h0_49, h0_50, h0_51, h0_52, h0_53, h0_54, h0_55, h0_56, h0_57, h0_58, h0_59, h0_60, h0_61, h0_62, h0_63, h0_64, h0_65, h0_66, h0_67, h0_68, h0_69])), (a_te, .inl (ca_te, 700, .inl fa_te))] [(ca_te, .int)] sz)) (va_Qi (fun (r : Int32) (_ : Unit) => ((-1 : Int) ≤ r.toInt ∧ r.toInt ≤ (255 : Int)) ∧ ((r.toInt ≠ 2 ∧ r.toInt ≠ 4 ∧ r.toInt ≠ 5) ∨ mnx.toInt < mst.toInt) ∧ f_so p1.toInt r.toInt) (fun (_ : Unit) (_ : State) => True) (va_A [] sz)) 0 0 (va_A [] sz) := by
  refine Met.ofW (cc := cX12_signOf) (maxL := 2) (ret := (some .int)) (by decide) rfl ?_
  intro p e s m args below meth c s₁ B hml hv
  obtain ⟨rfl, hsz, hP, hK, hD0⟩ := hv
  have hx := B.exec
  have hb := B.bytes
  have hr := B.returns
  have hts := atoms_spec (ws := u_s_X12_signOf3) B.pre
  have hown : s.vm.findClass RX12 = some m.cls := findClass_of_methodNamed B.named
  have hlocks := B.notSynchronized
  subst hsz
  have hD := hD0
  generalize hAe : va_A [] s.heap.size = A
  have hA : ∀ q : Nat, s.heap.size ≤ q → A q := fun q h => by rw [← hAe]; exact Or.inr h
  have hS : va_S A s.heap s.heap [] := va_S.rf
  have hP : va_P (dC, dI) vwCl [(h0, .inr (12, [.ref a_te, h0_1, h0_2, h0_3, h0_4, h0_5, h0_6, h0_7, h0_8, h0_9, h0_10, h0_11, h0_12, h0_13, h0_14, h0_15, h0_16, h0_17, h0_18, h0_19, h0_20, h0_21, h0_22, h0_23, h0_24, h0_25, h0_26, .ref a_wd, .int mf, .int mfp, .int mst, .int mnx, .int mkd, .int mwh, .int mpl, h0_35, h0_36, h0_37, h0_38, h0_39, h0_40, h0_41, h0_42, h0_43, h0_44, h0_45, h0_46, h0_47, h0_48, h0_49, h0_50, h0_51, h0_52, h0_53, h0_54, h0_55, h0_56, h0_57, h0_58, h0_59, h0_60, h0_61, h0_62, h0_63, h0_64, h0_65, h0_66, h0_67, h0_68, h0_69])), (a_te, .inl (ca_te, 700, .inl fa_te))] s.heap := hP
  have w__fieldLink_RX12_207_ShellHeapModel_next_I_ := hts (.fieldLink RX12 207 "ShellHeapModel" "next" "I") (z_mc (z_ml z_m0))
  have hiX12 := show ∀ w ∈ u_ws RX12 TX12 70, w ∈ u_s_X12_signOf3 from fun w h => z_mc (z_mr (z_ml h))
  have hl := lv_entry ([.ref h0, .int p1]) (n := 2) (Nat.le_of_ble_eq_true rfl)
  rw [lg_entry_eq]
  generalize (lg_sl ([.ref h0, .int p1]) ++ List.replicate (2 - (lg_sl ([.ref h0, .int p1])).length) Slot.unset).toArray = ls at hl ⊢
  have hl : lv_has ls 2 [(0, .ref h0), (1, .int p1)] := hl
  refine lv_iload_n hx hb dX12_signOf_0 rfl (lv_at hl 1 rfl) ?_
  refine lv_bipush (v := 60) hx hb dX12_signOf_1 (by decide) ?_
  refine lv_icmp_ne (tgt := 42) hx hb dX12_signOf_3 (by decide) (fun c_1 => ?_) (fun c_1 => ?_)
  · have k_2 : (p1).toInt ≠ (60 : Int) := z_ne c_1
    refine lv_iload_n hx hb dX12_signOf_42 rfl (lv_at hl 1 rfl) ?_
    refine lv_bipush (v := 62) hx hb dX12_signOf_43 (by decide) ?_
    refine lv_icmp_ne (tgt := 68) hx hb dX12_signOf_45 (by decide) (fun c_3 => ?_) (fun c_3 => ?_)
    · have k_4 : (p1).toInt ≠ (62 : Int) := z_ne c_3
      refine lv_iload_n hx hb dX12_signOf_68 rfl (lv_at hl 1 rfl) ?_
      refine lv_bipush (v := 61) hx hb dX12_signOf_69 (by decide) ?_
      refine lv_icmp_ne (tgt := 78) hx hb dX12_signOf_71 (by decide) (fun c_5 => ?_) (fun c_5 => ?_)
      · have k_6 : (p1).toInt ≠ (61 : Int) := z_ne c_5
        refine lv_iload_n hx hb dX12_signOf_78 rfl (lv_at hl 1 rfl) ?_
        refine lv_bipush (v := 58) hx hb dX12_signOf_79 (by decide) ?_
        refine lv_icmp_eq (tgt := 132) hx hb dX12_signOf_81 (by decide) (fun c_7 => ?_) (fun c_7 => ?_)
        · have k_8 : (p1).toInt = (58 : Int) := z_eq c_7
          refine lv_iload_n hx hb dX12_signOf_132 rfl (lv_at hl 1 rfl) ?_
          refine lv_goto (tgt := 137) hx hb dX12_signOf_133 (by decide) ?_
          refine W.widen (k := 0) (n := 0) (Nat.le_of_ble_eq_true rfl) (Nat.le_of_ble_eq_true rfl) ?_
          exact W.iret (v := p1) hx hb hr (fun t ht hW => ⟨⟨p1, (), rfl, (show ((-1 : Int) ≤ (p1).toInt ∧ (p1).toInt ≤ (255 : Int)) ∧ (((p1).toInt ≠ 2 ∧ (p1).toInt ≠ 4 ∧ (p1).toInt ≠ 5) ∨ mnx.toInt < mst.toInt) ∧ f_so p1.toInt (p1).toInt from ⟨by omega, by omega, by unfold f_so; omega⟩), trivial⟩, hS.F ht⟩) hS.2.2 dX12_signOf_137
        · have k_9 : (p1).toInt ≠ (58 : Int) := z_ne c_7
          refine lv_iload_n hx hb dX12_signOf_84 rfl (lv_at hl 1 rfl) ?_
          refine lv_bipush (v := 59) hx hb dX12_signOf_85 (by decide) ?_
          refine lv_icmp_eq (tgt := 132) hx hb dX12_signOf_87 (by decide) (fun c_10 => ?_) (fun c_10 => ?_)
          · have k_11 : (p1).toInt = (59 : Int) := z_eq c_10
            refine lv_iload_n hx hb dX12_signOf_132 rfl (lv_at hl 1 rfl) ?_
            refine lv_goto (tgt := 137) hx hb dX12_signOf_133 (by decide) ?_
            refine W.widen (k := 0) (n := 0) (Nat.le_of_ble_eq_true rfl) (Nat.le_of_ble_eq_true rfl) ?_
            exact W.iret (v := p1) hx hb hr (fun t ht hW => ⟨⟨p1, (), rfl, (show ((-1 : Int) ≤ (p1).toInt ∧ (p1).toInt ≤ (255 : Int)) ∧ (((p1).toInt ≠ 2 ∧ (p1).toInt ≠ 4 ∧ (p1).toInt ≠ 5) ∨ mnx.toInt < mst.toInt) ∧ f_so p1.toInt (p1).toInt from ⟨by omega, by omega, by unfold f_so; omega⟩), trivial⟩, hS.F ht⟩) hS.2.2 dX12_signOf_137
          · have k_12 : (p1).toInt ≠ (59 : Int) := z_ne c_10
            refine lv_iload_n hx hb dX12_signOf_90 rfl (lv_at hl 1 rfl) ?_
            refine lv_bipush (v := 44) hx hb dX12_signOf_91 (by decide) ?_
            refine lv_icmp_eq (tgt := 132) hx hb dX12_signOf_93 (by decide) (fun c_13 => ?_) (fun c_13 => ?_)
            · have k_14 : (p1).toInt = (44 : Int) := z_eq c_13
              refine lv_iload_n hx hb dX12_signOf_132 rfl (lv_at hl 1 rfl) ?_
              refine lv_goto (tgt := 137) hx hb dX12_signOf_133 (by decide) ?_
              refine W.widen (k := 0) (n := 0) (Nat.le_of_ble_eq_true rfl) (Nat.le_of_ble_eq_true rfl) ?_
              exact W.iret (v := p1) hx hb hr (fun t ht hW => ⟨⟨p1, (), rfl, (show ((-1 : Int) ≤ (p1).toInt ∧ (p1).toInt ≤ (255 : Int)) ∧ (((p1).toInt ≠ 2 ∧ (p1).toInt ≠ 4 ∧ (p1).toInt ≠ 5) ∨ mnx.toInt < mst.toInt) ∧ f_so p1.toInt (p1).toInt from ⟨by omega, by omega, by unfold f_so; omega⟩), trivial⟩, hS.F ht⟩) hS.2.2 dX12_signOf_137
            · have k_15 : (p1).toInt ≠ (44 : Int) := z_ne c_13
              refine lv_iload_n hx hb dX12_signOf_96 rfl (lv_at hl 1 rfl) ?_
              refine lv_bipush (v := 40) hx hb dX12_signOf_97 (by decide) ?_
              refine lv_icmp_eq (tgt := 132) hx hb dX12_signOf_99 (by decide) (fun c_16 => ?_) (fun c_16 => ?_)
              · have k_17 : (p1).toInt = (40 : Int) := z_eq c_16
                refine lv_iload_n hx hb dX12_signOf_132 rfl (lv_at hl 1 rfl) ?_
                refine lv_goto (tgt := 137) hx hb dX12_signOf_133 (by decide) ?_
                refine W.widen (k := 0) (n := 0) (Nat.le_of_ble_eq_true rfl) (Nat.le_of_ble_eq_true rfl) ?_
                exact W.iret (v := p1) hx hb hr (fun t ht hW => ⟨⟨p1, (), rfl, (show ((-1 : Int) ≤ (p1).toInt ∧ (p1).toInt ≤ (255 : Int)) ∧ (((p1).toInt ≠ 2 ∧ (p1).toInt ≠ 4 ∧ (p1).toInt ≠ 5) ∨ mnx.toInt < mst.toInt) ∧ f_so p1.toInt (p1).toInt from ⟨by omega, by omega, by unfold f_so; omega⟩), trivial⟩, hS.F ht⟩) hS.2.2 dX12_signOf_137
              · have k_18 : (p1).toInt ≠ (40 : Int) := z_ne c_16
                refine lv_iload_n hx hb dX12_signOf_102 rfl (lv_at hl 1 rfl) ?_
                refine lv_bipush (v := 41) hx hb dX12_signOf_103 (by decide) ?_
                refine lv_icmp_eq (tgt := 132) hx hb dX12_signOf_105 (by decide) (fun c_19 => ?_) (fun c_19 => ?_)
                · have k_20 : (p1).toInt = (41 : Int) := z_eq c_19
                  refine lv_iload_n hx hb dX12_signOf_132 rfl (lv_at hl 1 rfl) ?_
                  refine lv_goto (tgt := 137) hx hb dX12_signOf_133 (by decide) ?_
                  refine W.widen (k := 0) (n := 0) (Nat.le_of_ble_eq_true rfl) (Nat.le_of_ble_eq_true rfl) ?_
                  exact W.iret (v := p1) hx hb hr (fun t ht hW => ⟨⟨p1, (), rfl, (show ((-1 : Int) ≤ (p1).toInt ∧ (p1).toInt ≤ (255 : Int)) ∧ (((p1).toInt ≠ 2 ∧ (p1).toInt ≠ 4 ∧ (p1).toInt ≠ 5) ∨ mnx.toInt < mst.toInt) ∧ f_so p1.toInt (p1).toInt from ⟨by omega, by omega, by unfold f_so; omega⟩), trivial⟩, hS.F ht⟩) hS.2.2 dX12_signOf_137
                · have k_21 : (p1).toInt ≠ (41 : Int) := z_ne c_19
                  refine lv_iload_n hx hb dX12_signOf_108 rfl (lv_at hl 1 rfl) ?_
                  refine lv_bipush (v := 43) hx hb dX12_signOf_109 (by decide) ?_
                  refine lv_icmp_eq (tgt := 132) hx hb dX12_signOf_111 (by decide) (fun c_22 => ?_) (fun c_22 => ?_)
                  · have k_23 : (p1).toInt = (43 : Int) := z_eq c_22
                    refine lv_iload_n hx hb dX12_signOf_132 rfl (lv_at hl 1 rfl) ?_
                    refine lv_goto (tgt := 137) hx hb dX12_signOf_133 (by decide) ?_
                    refine W.widen (k := 0) (n := 0) (Nat.le_of_ble_eq_true rfl) (Nat.le_of_ble_eq_true rfl) ?_
                    exact W.iret (v := p1) hx hb hr (fun t ht hW => ⟨⟨p1, (), rfl, (show ((-1 : Int) ≤ (p1).toInt ∧ (p1).toInt ≤ (255 : Int)) ∧ (((p1).toInt ≠ 2 ∧ (p1).toInt ≠ 4 ∧ (p1).toInt ≠ 5) ∨ mnx.toInt < mst.toInt) ∧ f_so p1.toInt (p1).toInt from ⟨by omega, by omega, by unfold f_so; omega⟩), trivial⟩, hS.F ht⟩) hS.2.2 dX12_signOf_137
                  · have k_24 : (p1).toInt ≠ (43 : Int) := z_ne c_22
                    refine lv_iload_n hx hb dX12_signOf_114 rfl (lv_at hl 1 rfl) ?_
                    refine lv_bipush (v := 45) hx hb dX12_signOf_115 (by decide) ?_
                    refine lv_icmp_eq (tgt := 132) hx hb dX12_signOf_117 (by decide) (fun c_25 => ?_) (fun c_25 => ?_)
                    · have k_26 : (p1).toInt = (45 : Int) := z_eq c_25
                      refine lv_iload_n hx hb dX12_signOf_132 rfl (lv_at hl 1 rfl) ?_
                      refine lv_goto (tgt := 137) hx hb dX12_signOf_133 (by decide) ?_
                      refine W.widen (k := 0) (n := 0) (Nat.le_of_ble_eq_true rfl) (Nat.le_of_ble_eq_true rfl) ?_
                      exact W.iret (v := p1) hx hb hr (fun t ht hW => ⟨⟨p1, (), rfl, (show ((-1 : Int) ≤ (p1).toInt ∧ (p1).toInt ≤ (255 : Int)) ∧ (((p1).toInt ≠ 2 ∧ (p1).toInt ≠ 4 ∧ (p1).toInt ≠ 5) ∨ mnx.toInt < mst.toInt) ∧ f_so p1.toInt (p1).toInt from ⟨by omega, by omega, by unfold f_so; omega⟩), trivial⟩, hS.F ht⟩) hS.2.2 dX12_signOf_137
                    · have k_27 : (p1).toInt ≠ (45 : Int) := z_ne c_25
                      refine lv_iload_n hx hb dX12_signOf_120 rfl (lv_at hl 1 rfl) ?_
                      refine lv_bipush (v := 42) hx hb dX12_signOf_121 (by decide) ?_
                      refine lv_icmp_eq (tgt := 132) hx hb dX12_signOf_123 (by decide) (fun c_28 => ?_) (fun c_28 => ?_)
                      · have k_29 : (p1).toInt = (42 : Int) := z_eq c_28
                        refine lv_iload_n hx hb dX12_signOf_132 rfl (lv_at hl 1 rfl) ?_
                        refine lv_goto (tgt := 137) hx hb dX12_signOf_133 (by decide) ?_
                        refine W.widen (k := 0) (n := 0) (Nat.le_of_ble_eq_true rfl) (Nat.le_of_ble_eq_true rfl) ?_
                        exact W.iret (v := p1) hx hb hr (fun t ht hW => ⟨⟨p1, (), rfl, (show ((-1 : Int) ≤ (p1).toInt ∧ (p1).toInt ≤ (255 : Int)) ∧ (((p1).toInt ≠ 2 ∧ (p1).toInt ≠ 4 ∧ (p1).toInt ≠ 5) ∨ mnx.toInt < mst.toInt) ∧ f_so p1.toInt (p1).toInt from ⟨by omega, by omega, by unfold f_so; omega⟩), trivial⟩, hS.F ht⟩) hS.2.2 dX12_signOf_137
                      · have k_30 : (p1).toInt ≠ (42 : Int) := z_ne c_28
                        refine lv_iload_n hx hb dX12_signOf_126 rfl (lv_at hl 1 rfl) ?_
                        refine lv_bipush (v := 47) hx hb dX12_signOf_127 (by decide) ?_
                        refine lv_icmp_ne (tgt := 136) hx hb dX12_signOf_129 (by decide) (fun c_31 => ?_) (fun c_31 => ?_)
                        · have k_32 : (p1).toInt ≠ (47 : Int) := z_ne c_31
                          refine lv_iconst (v := (-1)) hx hb dX12_signOf_136 (by decide) ?_
                          refine W.widen (k := 0) (n := 0) (Nat.le_of_ble_eq_true rfl) (Nat.le_of_ble_eq_true rfl) ?_
                          exact W.iret (v := (-1)) hx hb hr (fun t ht hW => ⟨⟨(-1), (), rfl, (show ((-1 : Int) ≤ (-1 : Int) ∧ (-1 : Int) ≤ (255 : Int)) ∧ (((-1 : Int) ≠ 2 ∧ (-1 : Int) ≠ 4 ∧ (-1 : Int) ≠ 5) ∨ mnx.toInt < mst.toInt) ∧ f_so p1.toInt (-1 : Int) from ⟨by omega, by omega, by unfold f_so; omega⟩), trivial⟩, hS.F ht⟩) hS.2.2 dX12_signOf_137
                        · have k_33 : (p1).toInt = (47 : Int) := z_eq c_31
                          refine lv_iload_n hx hb dX12_signOf_132 rfl (lv_at hl 1 rfl) ?_
                          refine lv_goto (tgt := 137) hx hb dX12_signOf_133 (by decide) ?_
                          refine W.widen (k := 0) (n := 0) (Nat.le_of_ble_eq_true rfl) (Nat.le_of_ble_eq_true rfl) ?_
                          exact W.iret (v := p1) hx hb hr (fun t ht hW => ⟨⟨p1, (), rfl, (show ((-1 : Int) ≤ (p1).toInt ∧ (p1).toInt ≤ (255 : Int)) ∧ (((p1).toInt ≠ 2 ∧ (p1).toInt ≠ 4 ∧ (p1).toInt ≠ 5) ∨ mnx.toInt < mst.toInt) ∧ f_so p1.toInt (p1).toInt from ⟨by omega, by omega, by unfold f_so; omega⟩), trivial⟩, hS.F ht⟩) hS.2.2 dX12_signOf_137
      · have k_34 : (p1).toInt = (61 : Int) := z_eq c_5
        refine lv_iconst (v := 3) hx hb dX12_signOf_74 (by decide) ?_
        refine lv_goto (tgt := 137) hx hb dX12_signOf_75 (by decide) ?_
        refine W.widen (k := 0) (n := 0) (Nat.le_of_ble_eq_true rfl) (Nat.le_of_ble_eq_true rfl) ?_
        exact W.iret (v := 3) hx hb hr (fun t ht hW => ⟨⟨3, (), rfl, (show ((-1 : Int) ≤ (3 : Int) ∧ (3 : Int) ≤ (255 : Int)) ∧ (((3 : Int) ≠ 2 ∧ (3 : Int) ≠ 4 ∧ (3 : Int) ≠ 5) ∨ mnx.toInt < mst.toInt) ∧ f_so p1.toInt (3 : Int) from ⟨by omega, by omega, by unfold f_so; omega⟩), trivial⟩, hS.F ht⟩) hS.2.2 dX12_signOf_137
    · have k_35 : (p1).toInt = (62 : Int) := z_eq c_3
      refine lv_aload_n hx hb dX12_signOf_48 rfl (lv_at hl 0 rfl) ?_
      refine lv_aload_n hx hb dX12_signOf_49 rfl (lv_at hl 0 rfl) ?_
      refine va_get (D := (dC, dI)) (ci := 12) (v := .int mnx) (C := RX12) (T := TX12) (N := 70) hx hb hts hiX12 hown hK hP 0 rfl rfl 31 (by decide) w__fieldLink_RX12_207_ShellHeapModel_next_I_ (fun _ h9 => h9) rfl dX12_signOf_50 ?_
      refine lv_bipush (v := 61) hx hb dX12_signOf_53 (by decide) ?_
      have hPc := hP
      have hDc := hD
      have hKc := hK
      have hFc := va_free (ws := []) (wc := []) (z_D0 _) hS hA [] rfl
      refine va_calli (va_runV (As := [.int mnx, .int 61]) (rest := []) ⟨hx, hb, hml, hown, hts⟩ (s_X12_isAt l dC dI s.heap.size h0 mnx 61 a_te h0_1 h0_2 h0_3 h0_4 h0_5 h0_6 h0_7 h0_8 h0_9 h0_10 h0_11 h0_12 h0_13 h0_14 h0_15 h0_16 h0_17 h0_18 h0_19 h0_20 h0_21 h0_22 h0_23 h0_24 h0_25 h0_26 a_wd mf mfp mst mnx mkd mwh mpl h0_35 h0_36 h0_37 h0_38 h0_39 h0_40 h0_41 h0_42 h0_43 h0_44 h0_45 h0_46 h0_47 h0_48 h0_49 h0_50 h0_51 h0_52 h0_53 h0_54 h0_55 h0_56 h0_57 h0_58 h0_59 h0_60 h0_61 h0_62 h0_63 h0_64 h0_65 h0_66 h0_67 h0_68 h0_69 ca_te fa_te hB_mst hB_mnx hB_mkd hB_mpl hB_mnx hI_a_te) (cwV 2 hts gw_s_X12_signOf3_s_X12_isAt_210 rfl rfl rfl (by decide +kernel) ⟨Nat.le_of_ble_eq_true rfl, Nat.le_of_ble_eq_true rfl⟩) ⟨z_blind, va_recv hKc hPc (ci := 12) (q0 := 0) rfl rfl, z_pre hPc hKc hDc⟩ rfl rfl hl.1 rfl (lv_room (Nat.le_of_ble_eq_true rfl)) dX12_signOf_55 ⟨Nat.le_of_ble_eq_true rfl, Nat.le_of_ble_eq_true rfl⟩) hS (fun q _ h => hFc q h) hFc (fun r_37 u t H_36 locs ht hvm hw_38 hB hz1 hk1 hS => ?_)
      replace hP := z_pure hP hk1
      clear hPc hDc hKc
      rcases hw_38 with ⟨rfl, hw_38⟩ | ⟨rfl, hw_38⟩
      · have hw_38 : (mnx.toInt < mst.toInt) := hw_38
        refine lv_if_eq (tgt := 65) hx hb dX12_signOf_58 (by decide) (fun c_39 => absurd c_39 (by decide)) (fun _ => ?_)
        refine lv_iconst (v := 5) hx hb dX12_signOf_61 (by decide) ?_
        refine lv_goto (tgt := 67) hx hb dX12_signOf_62 (by decide) ?_
        refine W.widen (k := 0) (n := 0) (Nat.le_of_ble_eq_true rfl) (Nat.le_of_ble_eq_true rfl) ?_
        exact W.iret (v := 5) hx hb hr (fun t ht hW => ⟨⟨5, (), rfl, (show ((-1 : Int) ≤ (5 : Int) ∧ (5 : Int) ≤ (255 : Int)) ∧ (((5 : Int) ≠ 2 ∧ (5 : Int) ≠ 4 ∧ (5 : Int) ≠ 5) ∨ mnx.toInt < mst.toInt) ∧ f_so p1.toInt (5 : Int) from ⟨by omega, by omega, by unfold f_so; omega⟩), trivial⟩, hS.F ht⟩) hS.2.2 dX12_signOf_67
      · have hw_38 : True := hw_38
        refine lv_if_eq (tgt := 65) hx hb dX12_signOf_58 (by decide) (fun _ => ?_) (fun c_40 => absurd (by decide) c_40)
        refine lv_bipush (v := 6) hx hb dX12_signOf_65 (by decide) ?_
        refine W.widen (k := 0) (n := 0) (Nat.le_of_ble_eq_true rfl) (Nat.le_of_ble_eq_true rfl) ?_
        exact W.iret (v := 6) hx hb hr (fun t ht hW => ⟨⟨6, (), rfl, (show ((-1 : Int) ≤ (6 : Int) ∧ (6 : Int) ≤ (255 : Int)) ∧ (((6 : Int) ≠ 2 ∧ (6 : Int) ≠ 4 ∧ (6 : Int) ≠ 5) ∨ mnx.toInt < mst.toInt) ∧ f_so p1.toInt (6 : Int) from ⟨by omega, by omega, by unfold f_so; omega⟩), trivial⟩, hS.F ht⟩) hS.2.2 dX12_signOf_67
  · have k_41 : (p1).toInt = (60 : Int) := z_eq c_1
    refine lv_aload_n hx hb dX12_signOf_6 rfl (lv_at hl 0 rfl) ?_
    refine lv_aload_n hx hb dX12_signOf_7 rfl (lv_at hl 0 rfl) ?_
    refine va_get (D := (dC, dI)) (ci := 12) (v := .int mnx) (C := RX12) (T := TX12) (N := 70) hx hb hts hiX12 hown hK hP 0 rfl rfl 31 (by decide) w__fieldLink_RX12_207_ShellHeapModel_next_I_ (fun _ h9 => h9) rfl dX12_signOf_8 ?_
    refine lv_bipush (v := 61) hx hb dX12_signOf_11 (by decide) ?_
    have hPc := hP
    have hDc := hD
    have hKc := hK
    have hFc := va_free (ws := []) (wc := []) (z_D0 _) hS hA [] rfl
    refine va_calli (va_runV (As := [.int mnx, .int 61]) (rest := []) ⟨hx, hb, hml, hown, hts⟩ (s_X12_isAt l dC dI s.heap.size h0 mnx 61 a_te h0_1 h0_2 h0_3 h0_4 h0_5 h0_6 h0_7 h0_8 h0_9 h0_10 h0_11 h0_12 h0_13 h0_14 h0_15 h0_16 h0_17 h0_18 h0_19 h0_20 h0_21 h0_22 h0_23 h0_24 h0_25 h0_26 a_wd mf mfp mst mnx mkd mwh mpl h0_35 h0_36 h0_37 h0_38 h0_39 h0_40 h0_41 h0_42 h0_43 h0_44 h0_45 h0_46 h0_47 h0_48 h0_49 h0_50 h0_51 h0_52 h0_53 h0_54 h0_55 h0_56 h0_57 h0_58 h0_59 h0_60 h0_61 h0_62 h0_63 h0_64 h0_65 h0_66 h0_67 h0_68 h0_69 ca_te fa_te hB_mst hB_mnx hB_mkd hB_mpl hB_mnx hI_a_te) (cwV 2 hts gw_s_X12_signOf3_s_X12_isAt_210 rfl rfl rfl (by decide +kernel) ⟨Nat.le_of_ble_eq_true rfl, Nat.le_of_ble_eq_true rfl⟩) ⟨z_blind, va_recv hKc hPc (ci := 12) (q0 := 0) rfl rfl, z_pre hPc hKc hDc⟩ rfl rfl hl.1 rfl (lv_room (Nat.le_of_ble_eq_true rfl)) dX12_signOf_13 ⟨Nat.le_of_ble_eq_true rfl, Nat.le_of_ble_eq_true rfl⟩) hS (fun q _ h => hFc q h) hFc (fun r_43 u t H_42 locs ht hvm hw_44 hB hz1 hk1 hS => ?_)
    replace hP := z_pure hP hk1
    clear hPc hDc hKc
    rcases hw_44 with ⟨rfl, hw_44⟩ | ⟨rfl, hw_44⟩
    · have hw_44 : (mnx.toInt < mst.toInt) := hw_44
      refine lv_if_eq (tgt := 23) hx hb dX12_signOf_16 (by decide) (fun c_45 => absurd c_45 (by decide)) (fun _ => ?_)
      refine lv_iconst (v := 2) hx hb dX12_signOf_19 (by decide) ?_
      refine lv_goto (tgt := 41) hx hb dX12_signOf_20 (by decide) ?_
      refine W.widen (k := 0) (n := 0) (Nat.le_of_ble_eq_true rfl) (Nat.le_of_ble_eq_true rfl) ?_
      exact W.iret (v := 2) hx hb hr (fun t ht hW => ⟨⟨2, (), rfl, (show ((-1 : Int) ≤ (2 : Int) ∧ (2 : Int) ≤ (255 : Int)) ∧ (((2 : Int) ≠ 2 ∧ (2 : Int) ≠ 4 ∧ (2 : Int) ≠ 5) ∨ mnx.toInt < mst.toInt) ∧ f_so p1.toInt (2 : Int) from ⟨by omega, by omega, by unfold f_so; omega⟩), trivial⟩, hS.F ht⟩) hS.2.2 dX12_signOf_41
    · have hw_44 : True := hw_44
      refine lv_if_eq (tgt := 23) hx hb dX12_signOf_16 (by decide) (fun _ => ?_) (fun c_46 => absurd (by decide) c_46)
      refine lv_aload_n hx hb dX12_signOf_23 rfl (lv_at hl 0 rfl) ?_
      refine lv_aload_n hx hb dX12_signOf_24 rfl (lv_at hl 0 rfl) ?_
      refine va_get (D := (dC, dI)) (ci := 12) (v := .int mnx) (C := RX12) (T := TX12) (N := 70) hx hb hts hiX12 hown hK hP 0 rfl rfl 31 (by decide) w__fieldLink_RX12_207_ShellHeapModel_next_I_ (fun _ h9 => h9) rfl dX12_signOf_25 ?_
      refine lv_bipush (v := 62) hx hb dX12_signOf_28 (by decide) ?_
      have hPc := hP
      have hDc := hD
      have hKc := hK
      have hFc := va_free (ws := []) (wc := []) (z_D0 _) hS hA [] rfl
      refine va_calli (va_runV (As := [.int mnx, .int 62]) (rest := []) ⟨hx, hb, hml, hown, hts⟩ (s_X12_isAt l dC dI H_42.size h0 mnx 62 a_te h0_1 h0_2 h0_3 h0_4 h0_5 h0_6 h0_7 h0_8 h0_9 h0_10 h0_11 h0_12 h0_13 h0_14 h0_15 h0_16 h0_17 h0_18 h0_19 h0_20 h0_21 h0_22 h0_23 h0_24 h0_25 h0_26 a_wd mf mfp mst mnx mkd mwh mpl h0_35 h0_36 h0_37 h0_38 h0_39 h0_40 h0_41 h0_42 h0_43 h0_44 h0_45 h0_46 h0_47 h0_48 h0_49 h0_50 h0_51 h0_52 h0_53 h0_54 h0_55 h0_56 h0_57 h0_58 h0_59 h0_60 h0_61 h0_62 h0_63 h0_64 h0_65 h0_66 h0_67 h0_68 h0_69 ca_te fa_te hB_mst hB_mnx hB_mkd hB_mpl hB_mnx hI_a_te) (cwV 2 hts gw_s_X12_signOf3_s_X12_isAt_210 rfl rfl rfl (by decide +kernel) ⟨Nat.le_of_ble_eq_true rfl, Nat.le_of_ble_eq_true rfl⟩) ⟨z_blind, va_recv hKc hPc (ci := 12) (q0 := 0) rfl rfl, z_pre hPc hKc hDc⟩ rfl rfl hl.1 rfl (lv_room (Nat.le_of_ble_eq_true rfl)) dX12_signOf_30 ⟨Nat.le_of_ble_eq_true rfl, Nat.le_of_ble_eq_true rfl⟩) hS (fun q _ h => hFc q h) hFc (fun r_48 u t H_47 locs ht hvm hw_49 hB hz1 hk1 hS => ?_)
      replace hP := z_pure hP hk1
      clear hPc hDc hKc
      rcases hw_49 with ⟨rfl, hw_49⟩ | ⟨rfl, hw_49⟩
      · have hw_49 : (mnx.toInt < mst.toInt) := hw_49
        refine lv_if_eq (tgt := 40) hx hb dX12_signOf_33 (by decide) (fun c_50 => absurd c_50 (by decide)) (fun _ => ?_)
        refine lv_iconst (v := 4) hx hb dX12_signOf_36 (by decide) ?_
        refine lv_goto (tgt := 41) hx hb dX12_signOf_37 (by decide) ?_
        refine W.widen (k := 0) (n := 0) (Nat.le_of_ble_eq_true rfl) (Nat.le_of_ble_eq_true rfl) ?_
        exact W.iret (v := 4) hx hb hr (fun t ht hW => ⟨⟨4, (), rfl, (show ((-1 : Int) ≤ (4 : Int) ∧ (4 : Int) ≤ (255 : Int)) ∧ (((4 : Int) ≠ 2 ∧ (4 : Int) ≠ 4 ∧ (4 : Int) ≠ 5) ∨ mnx.toInt < mst.toInt) ∧ f_so p1.toInt (4 : Int) from ⟨by omega, by omega, by unfold f_so; omega⟩), trivial⟩, hS.F ht⟩) hS.2.2 dX12_signOf_41
      · have hw_49 : True := hw_49
        refine lv_if_eq (tgt := 40) hx hb dX12_signOf_33 (by decide) (fun _ => ?_) (fun c_51 => absurd (by decide) c_51)
        refine lv_iconst (v := 1) hx hb dX12_signOf_40 (by decide) ?_
        refine W.widen (k := 0) (n := 0) (Nat.le_of_ble_eq_true rfl) (Nat.le_of_ble_eq_true rfl) ?_
        exact W.iret (v := 1) hx hb hr (fun t ht hW => ⟨⟨1, (), rfl, (show ((-1 : Int) ≤ (1 : Int) ∧ (1 : Int) ≤ (255 : Int)) ∧ (((1 : Int) ≠ 2 ∧ (1 : Int) ≠ 4 ∧ (1 : Int) ≠ 5) ∨ mnx.toInt < mst.toInt) ∧ f_so p1.toInt (1 : Int) from ⟨by omega, by omega, by unfold f_so; omega⟩), trivial⟩, hS.F ht⟩) hS.2.2 dX12_signOf_41
def u_s_X12_isSign3 : List Cond := .code yX12_isSign cX12_isSign 2 (some .boolean) :: ([.fieldLink RX12 221 "ShellHeapModel" "kindNow" "I", .fieldLink RX12 214 "ShellHeapModel" "which" "I"] ++ (wsX120 ++ []))
theorem gd_s_X12_isSign3 : z_gd u_s_X12_isSign3 := z_gdc (by decide +kernel) (z_gda gdX12 (z_gd0))
set_option maxHeartbeats 4000000 in
set_option maxRecDepth 100000 in
theorem s_X12_isSign3 (l : Launch) (dC : Nat → ClassId) (dI : Nat → Nat → Nat) (sz : Nat) (h0 : Nat) (p1 : Int32) (h0_0 : Value) (h0_1 : Value) (h0_2 : Value) (h0_3 : Value) (h0_4 : Value) (h0_5 : Value) (h0_6 : Value) (h0_7 : Value) (h0_8 : Value) (h0_9 : Value) (h0_10 : Value) (h0_11 : Value) (h0_12 : Value) (h0_13 : Value) (h0_14 : Value) (h0_15 : Value) (h0_16 : Value) (h0_17 : Value) (h0_18 : Value) (h0_19 : Value) (h0_20 : Value) (h0_21 : Value) (h0_22 : Value) (h0_23 : Value) (h0_24 : Value) (h0_25 : Value) (h0_26 : Value) (h0_27 : Value) (mf : Int32) (mfp : Int32) (mst : Int32) (mnx : Int32) (mkd : Int32) (mwh : Int32) (mpl : Int32) (h0_35 : Value) (h0_36 : Value) (h0_37 : Value) (h0_38 : Value) (h0_39 : Value) (h0_40 : Value) (h0_41 : Value) (h0_42 : Value) (h0_43 : Value) (h0_44 : Value) (h0_45 : Value) (h0_46 : Value) (h0_47 : Value) (h0_48 : Value) (h0_49 : Value) (h0_50 : Value) (h0_51 : Value) (h0_52 : Value) (h0_53 : Value) (h0_54 : Value) (h0_55 : Value) (h0_56 : Value) (h0_57 : Value) (h0_58 : Value) (h0_59 : Value) (h0_60 : Value) (h0_61 : Value) (h0_62 : Value) (h0_63 : Value) (h0_64 : Value) (h0_65 : Value) (h0_66 : Value) (h0_67 : Value) (h0_68 : Value) (h0_69 : Value) (hB_mkd : ((0 : Int) ≤ (mkd).toInt ∧ (mkd).toInt ≤ (7 : Int))) : Met l yX12_isSign u_s_X12_isSign3 ({ frames := 0, cells := 0, slots := 0, locals := 0 }) (va_Pc [.ref h0, .int p1] (z_C (dC, dI) vwCl [(h0, .inr (12, [h0_0, h0_1, h0_2, h0_3, h0_4, h0_5, h0_6, h0_7, h0_8, h0_9, h0_10, h0_11, h0_12, h0_13, h0_14, h0_15, h0_16, h0_17, h0_18, h0_19, h0_20, h0_21, h0_22, h0_23, h0_24, h0_25, h0_26, h0_27, .int mf, .int mfp, .int mst, .int mnx, .int mkd, .int mwh, .int mpl, h0_35, h0_36, h0_37, h0_38, h0_39, h0_40, h0_41, h0_42, h0_43, h0_44, h0_45, h0_46, h0_47, h0_48, h0_49, h0_50, h0_51, h0_52, h0_53, h0_54, h0_55, h0_56, h0_57, h0_58, h0_59, h0_60, h0_61, h0_62, h0_63, h0_64, h0_65, h0_66, h0_67, h0_68, h0_69]))] [] sz)) (va_Qi (fun (r : Int32) (_ : Unit) => (r = 1 ∧ (mkd.toInt = 4 ∧ mwh.toInt = p1.toInt)) ∨ (r = 0 ∧ ¬ (mkd.toInt = 4 ∧ mwh.toInt = p1.toInt))) (fun (_ : Unit) (_ : State) => True) (va_A [] sz)) 0 0 (va_A [] sz) := by
  refine Met.ofW (cc := cX12_isSign) (maxL := 2) (ret := (some .boolean)) (by decide) rfl ?_
  intro p e s m args below meth c s₁ B hml hv
  obtain ⟨rfl, hsz, hP, hK, hD0⟩ := hv
  have hx := B.exec
  have hb := B.bytes
  have hr := B.returns
  have hts := atoms_spec (ws := u_s_X12_isSign3) B.pre
  have hown : s.vm.findClass RX12 = some m.cls := findClass_of_methodNamed B.named
  have hlocks := B.notSynchronized
  subst hsz
  have hD := hD0
  generalize hAe : va_A [] s.heap.size = A
  have hA : ∀ q : Nat, s.heap.size ≤ q → A q := fun q h => by rw [← hAe]; exact Or.inr h
  have hS : va_S A s.heap s.heap [] := va_S.rf
  have hP : va_P (dC, dI) vwCl [(h0, .inr (12, [h0_0, h0_1, h0_2, h0_3, h0_4, h0_5, h0_6, h0_7, h0_8, h0_9, h0_10, h0_11, h0_12, h0_13, h0_14, h0_15, h0_16, h0_17, h0_18, h0_19, h0_20, h0_21, h0_22, h0_23, h0_24, h0_25, h0_26, h0_27, .int mf, .int mfp, .int mst, .int mnx, .int mkd, .int mwh, .int mpl, h0_35, h0_36, h0_37, h0_38, h0_39, h0_40, h0_41, h0_42, h0_43, h0_44, h0_45, h0_46, h0_47, h0_48, h0_49, h0_50, h0_51, h0_52, h0_53, h0_54, h0_55, h0_56, h0_57, h0_58, h0_59, h0_60, h0_61, h0_62, h0_63, h0_64, h0_65, h0_66, h0_67, h0_68, h0_69]))] s.heap := hP
  have w__fieldLink_RX12_221_ShellHeapModel_kindNow_I_ := hts (.fieldLink RX12 221 "ShellHeapModel" "kindNow" "I") (z_mc (z_ml z_m0))
  have hiX12 := show ∀ w ∈ u_ws RX12 TX12 70, w ∈ u_s_X12_isSign3 from fun w h => z_mc (z_mr (z_ml h))
  have w__fieldLink_RX12_214_ShellHeapModel_which_I_ := hts (.fieldLink RX12 214 "ShellHeapModel" "which" "I") (z_mc (z_ml z_m1))
  have krr_p1 := z_rng p1
  have hl := lv_entry ([.ref h0, .int p1]) (n := 2) (Nat.le_of_ble_eq_true rfl)
  rw [lg_entry_eq]
  generalize (lg_sl ([.ref h0, .int p1]) ++ List.replicate (2 - (lg_sl ([.ref h0, .int p1])).length) Slot.unset).toArray = ls at hl ⊢
  have hl : lv_has ls 2 [(0, .ref h0), (1, .int p1)] := hl
  refine lv_aload_n hx hb dX12_isSign_0 rfl (lv_at hl 0 rfl) ?_
  refine va_get (D := (dC, dI)) (ci := 12) (v := .int mkd) (C := RX12) (T := TX12) (N := 70) hx hb hts hiX12 hown hK hP 0 rfl rfl 32 (by decide) w__fieldLink_RX12_221_ShellHeapModel_kindNow_I_ (fun _ h9 => h9) rfl dX12_isSign_1 ?_
  refine lv_iconst (v := 4) hx hb dX12_isSign_4 (by decide) ?_
  refine lv_icmp_ne (tgt := 20) hx hb dX12_isSign_5 (by decide) (fun c_1 => ?_) (fun c_1 => ?_)
  · have k_2 : (mkd).toInt ≠ (4 : Int) := z_ne c_1
    refine lv_iconst (v := 0) hx hb dX12_isSign_20 (by decide) ?_
    refine W.widen (k := 0) (n := 0) (Nat.le_of_ble_eq_true rfl) (Nat.le_of_ble_eq_true rfl) ?_
    exact W.zret (v := 0) hx hb hr (by rfl) (fun t ht hW => ⟨⟨0, (), rfl, (Or.inr (⟨rfl, by first | omega | decide⟩)), trivial⟩, hS.F ht⟩) hS.2.2 dX12_isSign_21
  · have k_3 : (mkd).toInt = (4 : Int) := z_eq c_1
    refine lv_aload_n hx hb dX12_isSign_8 rfl (lv_at hl 0 rfl) ?_
    refine va_get (D := (dC, dI)) (ci := 12) (v := .int mwh) (C := RX12) (T := TX12) (N := 70) hx hb hts hiX12 hown hK hP 0 rfl rfl 33 (by decide) w__fieldLink_RX12_214_ShellHeapModel_which_I_ (fun _ h9 => h9) rfl dX12_isSign_9 ?_
    refine lv_iload_n hx hb dX12_isSign_12 rfl (lv_at hl 1 rfl) ?_
    refine lv_icmp_ne (tgt := 20) hx hb dX12_isSign_13 (by decide) (fun c_4 => ?_) (fun c_4 => ?_)
    · have k_5 : (mwh).toInt ≠ (p1).toInt := z_ne c_4
      refine lv_iconst (v := 0) hx hb dX12_isSign_20 (by decide) ?_
      refine W.widen (k := 0) (n := 0) (Nat.le_of_ble_eq_true rfl) (Nat.le_of_ble_eq_true rfl) ?_
      exact W.zret (v := 0) hx hb hr (by rfl) (fun t ht hW => ⟨⟨0, (), rfl, (Or.inr (⟨rfl, by first | omega | decide⟩)), trivial⟩, hS.F ht⟩) hS.2.2 dX12_isSign_21
    · have k_6 : (mwh).toInt = (p1).toInt := z_eq c_4
      refine lv_iconst (v := 1) hx hb dX12_isSign_16 (by decide) ?_
      refine lv_goto (tgt := 21) hx hb dX12_isSign_17 (by decide) ?_
      refine W.widen (k := 0) (n := 0) (Nat.le_of_ble_eq_true rfl) (Nat.le_of_ble_eq_true rfl) ?_
      exact W.zret (v := 1) hx hb hr (by rfl) (fun t ht hW => ⟨⟨1, (), rfl, (Or.inl (⟨rfl, by first | omega | decide⟩)), trivial⟩, hS.F ht⟩) hS.2.2 dX12_isSign_21
