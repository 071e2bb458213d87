def u_s_X8_readTitle : List Cond := .code yX8_readTitle cX8_readTitle 3 (some .boolean) :: ([.fieldLink RX8 42 "ShellHeap$RulesReader" "tape" "LShellHeap$Tape;", .fieldLink RX8 89 "ShellHeap$Tape" "end" "I", .fieldLink RX8 92 "ShellHeap$Tape" "start" "I", .fieldLink RX8 54 "ShellHeap$Tape" "sort" "I", .methodLink RX8 67 yX10_fail, .instanceMethod yX10_fail, .selects RX10 yX10_fail yX10_fail, .initialized RX10, .methodLink RX8 63 yX10_wordIn, .instanceMethod yX10_wordIn, .selects RX10 yX10_wordIn yX10_wordIn, .fieldLink RX8 35 "ShellHeap$RulesReader" "draft" "LShellHeap$Rules;", .fieldLink RX8 71 "ShellHeap$Rules" "causes" "I", .fieldLink RX8 11 "ShellHeap$RulesReader" "titleStarts" "[I", .fieldLink RX8 17 "ShellHeap$RulesReader" "titleLengths" "[I", .methodLink RX8 74 yX10_next, .instanceMethod yX10_next, .selects RX10 yX10_next yX10_next, .methodLink RX8 99 yX10_isInHandAt, .instanceMethod yX10_isInHandAt, .selects RX10 yX10_isInHandAt yX10_isInHandAt] ++ (wsX80 ++ (wsX100 ++ (wsX70 ++ (u_s_X10_fail ++ (u_s_X10_wordIn ++ (u_s_X10_next ++ (u_s_X10_isInHandAt ++ []))))))))
theorem gd_s_X8_readTitle : z_gd u_s_X8_readTitle := z_gdc (by decide +kernel) (z_gda gdX8 (z_gda gdX10 (z_gda gdX7 (z_gda gd_s_X10_fail (z_gda gd_s_X10_wordIn (z_gda gd_s_X10_next (z_gda gd_s_X10_isInHandAt (z_gd0))))))))
set_option maxRecDepth 20000 in
theorem gw_s_X8_readTitle_s_X10_fail_67 : GoodIn u_s_X8_readTitle (wsV RX8 67 RX10 yX10_fail u_s_X10_fail) := z_gV (z_gr _ [5, 6, 7, 8] rfl (by decide +kernel)) (fun w h => ⟨z_mc (z_mr (z_mr (z_mr (z_mr (z_ml h))))), gd_s_X10_fail w h⟩)
set_option maxRecDepth 20000 in
theorem gw_s_X8_readTitle_s_X10_wordIn_63 : GoodIn u_s_X8_readTitle (wsV RX8 63 RX10 yX10_wordIn u_s_X10_wordIn) := z_gV (z_gr _ [9, 10, 11, 8] rfl (by decide +kernel)) (fun w h => ⟨z_mc (z_mr (z_mr (z_mr (z_mr (z_mr (z_ml h)))))), gd_s_X10_wordIn w h⟩)
set_option maxRecDepth 20000 in
theorem gw_s_X8_readTitle_s_X10_next_74 : GoodIn u_s_X8_readTitle (wsV RX8 74 RX10 yX10_next u_s_X10_next) := z_gV (z_gr _ [16, 17, 18, 8] rfl (by decide +kernel)) (fun w h => ⟨z_mc (z_mr (z_mr (z_mr (z_mr (z_mr (z_mr (z_ml h))))))), gd_s_X10_next w h⟩)
set_option maxRecDepth 20000 in
theorem gw_s_X8_readTitle_s_X10_isInHandAt_99 : GoodIn u_s_X8_readTitle (wsV RX8 99 RX10 yX10_isInHandAt u_s_X10_isInHandAt) := z_gV (z_gr _ [19, 20, 21, 8] rfl (by decide +kernel)) (fun w h => ⟨z_mc (z_mr (z_mr (z_mr (z_mr (z_mr (z_mr (z_mr (z_ml h)))))))), gd_s_X10_isInHandAt w h⟩)
set_option maxHeartbeats 4000000 in
set_option maxRecDepth 100000 in
theorem s_X8_readTitle (l : Launch) (dC : Nat → ClassId) (dI : Nat → Nat → Nat) (sz : Nat) (sd : Nat → Nat) (sv : Nat → Nat) (sf : Value) (h0 : Nat) (a_tp : Nat) (a_t1 : Nat) (a_t2 : Nat) (a_w1 : Nat) (uw : Int32) (uo : Int32) (up : Int32) (a_dr : Nat) (h0_8 : Value) (ca_t1 : ClassId) (fa_t1 : Nat → Int32) (ca_t2 : ClassId) (fa_t2 : Nat → Int32) (a_tb : Nat) (tt : Int32) (ta : Int32) (tj : Int32) (tf : Int32) (ts : Int32) (te : Int32) (to : Int32) (tg : Int32) (tx : Int32) (ty : Int32) (ca_tb : ClassId) (fa_tb : Nat → Int32) (a_d1 : Nat) (a_d2 : Nat) (a_d3 : Nat) (rl : Int32) (rc : Int32) (rk : Int32) (hB_tt : ((0 : Int) ≤ (tt).toInt ∧ (tt).toInt ≤ (700 : Int))) (hB_ta : ((0 : Int) ≤ (ta).toInt ∧ (ta).toInt ≤ (700 : Int))) (hB_tf : ((0 : Int) ≤ (tf).toInt ∧ (tf).toInt ≤ (700 : Int))) (hB_ts : ((0 : Int) ≤ (ts).toInt ∧ (ts).toInt ≤ (700 : Int))) (hB_te : ((0 : Int) ≤ (te).toInt ∧ (te).toInt ≤ (700 : Int))) (hB_uw : ((0 : Int) ≤ (uw).toInt ∧ (uw).toInt ≤ (104 : Int))) (hB_uo : ((0 : Int) ≤ (uo).toInt ∧ (uo).toInt ≤ (8 : Int))) (hB_up : ((0 : Int) ≤ (up).toInt ∧ (up).toInt ≤ (1 : Int))) (hB_rl : ((0 : Int) ≤ (rl).toInt ∧ (rl).toInt ≤ (96 : Int))) (hB_rc : ((0 : Int) ≤ (rc).toInt ∧ (rc).toInt ≤ (5 : Int))) (hB_rk : ((0 : Int) ≤ (rk).toInt ∧ (rk).toInt ≤ (96 : Int))) (hI_a_tb : ∀ j : Nat, ((0 : Int) ≤ (fa_tb j).toInt ∧ (fa_tb j).toInt ≤ (255 : Int))) : Met l yX8_readTitle u_s_X8_readTitle ({ frames := 5, cells := 0, slots := 0, locals := 111 }) (va_Pc [.ref h0] (z_CS (dC, dI) vwCl [(h0, .inr (8, [.ref a_tp, .ref a_t1, .ref a_t2, .ref a_w1, .int uw, .int uo, .int up, .ref a_dr, h0_8])), (a_t1, .inl (ca_t1, 6, .inl fa_t1)), (a_t2, .inl (ca_t2, 6, .inl fa_t2)), (a_tp, .inr (10, [.ref a_tb, .int tt, .int ta, .int tj, .int tf, .int ts, .int te, .int to, .int tg, .int tx, .int ty])), (a_tb, .inl (ca_tb, 700, .inl fa_tb)), (a_dr, .inr (7, [.ref a_d1, .ref a_d2, .ref a_d3, .int rl, .int rc, .int rk]))] [(ca_t1, .int), (ca_t2, .int), (ca_tb, .int)] sz sd sv sf [(h0, .inr (8, [.ref a_tp, .ref a_t1, .ref a_t2, .ref a_w1, .int uw, .int uo, .int up, .ref a_dr, h0_8])), (a_t1, .inl (ca_t1, 6, .inl fa_t1)), (a_t2, .inl (ca_t2, 6, .inl fa_t2)), (a_tp, .inr (10, [.ref a_tb, .int tt, .int ta, .int tj, .int tf, .int ts, .int te, .int to, .int tg, .int tx, .int ty])), (a_tb, .inl (ca_tb, 700, .inl fa_tb)), (a_dr, .inr (7, [.ref a_d1, .ref a_d2, .ref a_d3, .int rl, .int rc, .int rk]))])) (va_Qi (fun (r : Int32) (_ : Unit) => ((0 : Int) ≤ (r).toInt ∧ (r).toInt ≤ (1 : Int))) (fun (_ : Unit) (t : State) => ∃ (g_a_t1 : Nat → Int32), ∃ (g_a_t2 : Nat → Int32), ∃ (n_a_tp_at : Int32), ∃ (n_a_tp_start : Int32), ∃ (n_a_tp_end : Int32), ∃ (n_a_tp_sort : Int32), ∃ (n_a_tp_sign : Int32), ∃ (n_a_tp_faultSort : Int32), ∃ (n_a_tp_faultPlace : Int32), ((0 : Int) ≤ (n_a_tp_at).toInt ∧ (n_a_tp_at).toInt ≤ (700 : Int)) ∧ ((0 : Int) ≤ (n_a_tp_start).toInt ∧ (n_a_tp_start).toInt ≤ (700 : Int)) ∧ ((0 : Int) ≤ (n_a_tp_end).toInt ∧ (n_a_tp_end).toInt ≤ (700 : Int)) ∧ va_P (dC, dI) vwCl [(h0, .inr (8, [.ref a_tp, .ref a_t1, .ref a_t2, .ref a_w1, .int uw, .int uo, .int up, .ref a_dr, h0_8])), (a_t1, .inl (ca_t1, 6, .inl g_a_t1)), (a_t2, .inl (ca_t2, 6, .inl g_a_t2)), (a_tp, .inr (10, [.ref a_tb, .int tt, .int n_a_tp_at, .int tj, .int tf, .int n_a_tp_start, .int n_a_tp_end, .int n_a_tp_sort, .int n_a_tp_sign, .int n_a_tp_faultSort, .int n_a_tp_faultPlace])), (a_tb, .inl (ca_tb, 700, .inl fa_tb)), (a_dr, .inr (7, [.ref a_d1, .ref a_d2, .ref a_d3, .int rl, .int rc, .int rk]))] t.heap ∧ va_K (dC, dI) vwCl [] t ∧ va_D (va_A [(h0, .inr (8, [.ref a_tp, .ref a_t1, .ref a_t2, .ref a_w1, .int uw, .int uo, .int up, .ref a_dr, h0_8])), (a_t1, .inl (ca_t1, 6, .inl fa_t1)), (a_t2, .inl (ca_t2, 6, .inl fa_t2)), (a_tp, .inr (10, [.ref a_tb, .int tt, .int ta, .int tj, .int tf, .int ts, .int te, .int to, .int tg, .int tx, .int ty])), (a_tb, .inl (ca_tb, 700, .inl fa_tb)), (a_dr, .inr (7, [.ref a_d1, .ref a_d2, .ref a_d3, .int rl, .int rc, .int rk]))] sz) [(h0, .inr (8, [.ref a_tp, .ref a_t1, .ref a_t2, .ref a_w1, .int uw, .int uo, .int up, .ref a_dr, h0_8])), (a_t1, .inl (ca_t1, 6, .inl g_a_t1)), (a_t2, .inl (ca_t2, 6, .inl g_a_t2)), (a_tp, .inr (10, [.ref a_tb, .int tt, .int n_a_tp_at, .int tj, .int tf, .int n_a_tp_start, .int n_a_tp_end, .int n_a_tp_sort, .int n_a_tp_sign, .int n_a_tp_faultSort, .int n_a_tp_faultPlace])), (a_tb, .inl (ca_tb, 700, .inl fa_tb)), (a_dr, .inr (7, [.ref a_d1, .ref a_d2, .ref a_d3, .int rl, .int rc, .int rk]))]) (va_A [(h0, .inr (8, [.ref a_tp, .ref a_t1, .ref a_t2, .ref a_w1, .int uw, .int uo, .int up, .ref a_dr, h0_8])), (a_t1, .inl (ca_t1, 6, .inl fa_t1)), (a_t2, .inl (ca_t2, 6, .inl fa_t2)), (a_tp, .inr (10, [.ref a_tb, .int tt, .int ta, .int tj, .int tf, .int ts, .int te, .int to, .int tg, .int tx, .int ty])), (a_tb, .inl (ca_tb, 700, .inl fa_tb)), (a_dr, .inr (7, [.ref a_d1, .ref a_d2, .ref a_d3, .int rl, .int rc, .int rk]))] sz)) 0 0 (va_A [(h0, .inr (8, [.ref a_tp, .ref a_t1, .ref a_t2, .ref a_w1, .int uw, .int uo, .int up, .ref a_dr, h0_8])), (a_t1, .inl (ca_t1, 6, .inl fa_t1)), (a_t2, .inl (ca_t2, 6, .inl fa_t2)), (a_tp, .inr (10, [.ref a_tb, .int tt, .int ta, .int tj, .int tf, .int ts, .int te, .int to, .int tg, .int tx, .int ty])), (a_tb, .inl (ca_tb, 700, .inl fa_tb)), (a_dr, .inr (7, [.ref a_d1, .ref a_d2, .ref a_d3, .int rl, .int rc, .int rk]))] sz) := by
  refine Met.ofW (cc := cX8_readTitle) (maxL := 3) (ret := (some .boolean)) (by decide) rfl ?_
  intro p e s m args below meth c s₁ B hml hv
  obtain ⟨rfl, ⟨hsz, hP, hK, hD0⟩, hST⟩ := hv
  have hx := B.exec
  have hb := B.bytes
  have hr := B.returns
  have hts := atoms_spec (ws := u_s_X8_readTitle) B.pre
  have hown : s.vm.findClass RX8 = some m.cls := findClass_of_methodNamed B.named
  have hlocks := B.notSynchronized
  subst hsz
  have hD := hD0.self (sz := s.heap.size)
  generalize hAe : va_A [(h0, .inr (8, [.ref a_tp, .ref a_t1, .ref a_t2, .ref a_w1, .int uw, .int uo, .int up, .ref a_dr, h0_8])), (a_t1, .inl (ca_t1, 6, .inl fa_t1)), (a_t2, .inl (ca_t2, 6, .inl fa_t2)), (a_tp, .inr (10, [.ref a_tb, .int tt, .int ta, .int tj, .int tf, .int ts, .int te, .int to, .int tg, .int tx, .int ty])), (a_tb, .inl (ca_tb, 700, .inl fa_tb)), (a_dr, .inr (7, [.ref a_d1, .ref a_d2, .ref a_d3, .int rl, .int rc, .int rk]))] s.heap.size = A at hD hST ⊢
  have hA : ∀ q : Nat, s.heap.size ≤ q → A q := fun q h => by rw [← hAe]; exact Or.inr h
  have hS : va_S A s.heap s.heap [] := va_S.rf
  have hP : va_P (dC, dI) vwCl [(h0, .inr (8, [.ref a_tp, .ref a_t1, .ref a_t2, .ref a_w1, .int uw, .int uo, .int up, .ref a_dr, h0_8])), (a_t1, .inl (ca_t1, 6, .inl fa_t1)), (a_t2, .inl (ca_t2, 6, .inl fa_t2)), (a_tp, .inr (10, [.ref a_tb, .int tt, .int ta, .int tj, .int tf, .int ts, .int te, .int to, .int tg, .int tx, .int ty])), (a_tb, .inl (ca_tb, 700, .inl fa_tb)), (a_dr, .inr (7, [.ref a_d1, .ref a_d2, .ref a_d3, .int rl, .int rc, .int rk]))] s.heap := hP
  have w__fieldLink_RX8_42_ShellHeap_RulesReader_tape_LShellHeap_Tape_ := hts (.fieldLink RX8 42 "ShellHeap$RulesReader" "tape" "LShellHeap$Tape;") (z_mc (z_ml z_m0))
  have hiX8 := show ∀ w ∈ u_ws RX8 TX8 9, w ∈ u_s_X8_readTitle from fun w h => z_mc (z_mr (z_ml h))
  have w__fieldLink_RX8_89_ShellHeap_Tape_end_I_ := hts (.fieldLink RX8 89 "ShellHeap$Tape" "end" "I") (z_mc (z_ml z_m1))
  have hiX10 := show ∀ w ∈ u_ws RX10 TX10 11, w ∈ u_s_X8_readTitle from fun w h => z_mc (z_mr (z_mr (z_ml h)))
  have w__fieldLink_RX8_92_ShellHeap_Tape_start_I_ := hts (.fieldLink RX8 92 "ShellHeap$Tape" "start" "I") (z_mc (z_ml z_m2))
  have w__fieldLink_RX8_54_ShellHeap_Tape_sort_I_ := hts (.fieldLink RX8 54 "ShellHeap$Tape" "sort" "I") (z_mc (z_ml z_m3))
  have w__fieldLink_RX8_35_ShellHeap_RulesReader_draft_LShellHeap_Rules_ := hts (.fieldLink RX8 35 "ShellHeap$RulesReader" "draft" "LShellHeap$Rules;") (z_mc (z_ml z_m11))
  have w__fieldLink_RX8_71_ShellHeap_Rules_causes_I_ := hts (.fieldLink RX8 71 "ShellHeap$Rules" "causes" "I") (z_mc (z_ml z_m12))
  have hiX7 := show ∀ w ∈ u_ws RX7 TX7 6, w ∈ u_s_X8_readTitle from fun w h => z_mc (z_mr (z_mr (z_mr (z_ml h))))
  have w__fieldLink_RX8_11_ShellHeap_RulesReader_titleStarts_I_ := hts (.fieldLink RX8 11 "ShellHeap$RulesReader" "titleStarts" "[I") (z_mc (z_ml z_m13))
  have w__fieldLink_RX8_17_ShellHeap_RulesReader_titleLengths_I_ := hts (.fieldLink RX8 17 "ShellHeap$RulesReader" "titleLengths" "[I") (z_mc (z_ml z_m14))
  have hl := lv_entry ([.ref h0]) (n := 3) (Nat.le_of_ble_eq_true rfl)
  rw [lg_entry_eq]
  generalize (lg_sl ([.ref h0]) ++ List.replicate (3 - (lg_sl ([.ref h0])).length) Slot.unset).toArray = ls at hl ⊢
  have hl : lv_has ls 3 [(0, .ref h0)] := hl
  refine z_nameQ (fun QQ hQQ => ?_)
  refine lv_aload_n hx hb dX8_readTitle_0 rfl (lv_at hl 0 rfl) ?_
  refine va_get (D := (dC, dI)) (ci := 8) (v := .ref a_tp) (C := RX8) (T := TX8) (N := 9) hx hb hts hiX8 hown hK hP 0 rfl rfl 0 (by decide) w__fieldLink_RX8_42_ShellHeap_RulesReader_tape_LShellHeap_Tape_ (fun _ h9 => h9) rfl dX8_readTitle_1 ?_
  refine va_get (D := (dC, dI)) (ci := 10) (v := .int te) (C := RX10) (T := TX10) (N := 11) hx hb hts hiX10 hown hK hP 3 rfl rfl 6 (by decide) w__fieldLink_RX8_89_ShellHeap_Tape_end_I_ (fun _ h9 => h9) rfl dX8_readTitle_4 ?_
  refine lv_aload_n hx hb dX8_readTitle_7 rfl (lv_at hl 0 rfl) ?_
  refine va_get (D := (dC, dI)) (ci := 8) (v := .ref a_tp) (C := RX8) (T := TX8) (N := 9) hx hb hts hiX8 hown hK hP 0 rfl rfl 0 (by decide) w__fieldLink_RX8_42_ShellHeap_RulesReader_tape_LShellHeap_Tape_ (fun _ h9 => h9) rfl dX8_readTitle_8 ?_
  refine va_get (D := (dC, dI)) (ci := 10) (v := .int ts) (C := RX10) (T := TX10) (N := 11) hx hb hts hiX10 hown hK hP 3 rfl rfl 5 (by decide) w__fieldLink_RX8_92_ShellHeap_Tape_start_I_ (fun _ h9 => h9) rfl dX8_readTitle_11 ?_
  refine lv_isub hx hb dX8_readTitle_14 ?_
  refine lv_topi (fun z_1 ez_1 => ?_)
  have kz_1 : (z_1).toInt = (te).toInt - (ts).toInt := by rw [ez_1]; exact z_sub (a := (te).toInt) (b := (ts).toInt) rfl rfl (by omega) (by omega)
  refine lv_istore_n (lv' := [(1, .int z_1), (0, .ref h0)]) hx hb dX8_readTitle_15 rfl hl (by decide) rfl (fun ls hl => ?_)
  refine lv_aload_n hx hb dX8_readTitle_16 rfl (lv_at hl 1 rfl) ?_
  refine va_get (D := (dC, dI)) (ci := 8) (v := .ref a_tp) (C := RX8) (T := TX8) (N := 9) hx hb hts hiX8 hown hK hP 0 rfl rfl 0 (by decide) w__fieldLink_RX8_42_ShellHeap_RulesReader_tape_LShellHeap_Tape_ (fun _ h9 => h9) rfl dX8_readTitle_17 ?_
  refine va_get (D := (dC, dI)) (ci := 10) (v := .int to) (C := RX10) (T := TX10) (N := 11) hx hb hts hiX10 hown hK hP 3 rfl rfl 7 (by decide) w__fieldLink_RX8_54_ShellHeap_Tape_sort_I_ (fun _ h9 => h9) rfl dX8_readTitle_20 ?_
  refine lv_iconst (v := 1) hx hb dX8_readTitle_23 (by decide) ?_
  refine lv_icmp_ne (tgt := 33) hx hb dX8_readTitle_24 (by decide) (fun c_2 => ?_) (fun c_2 => ?_)
  · have k_3 : (to).toInt ≠ (1 : Int) := z_ne c_2
    refine lv_aload_n hx hb dX8_readTitle_33 rfl (lv_at hl 1 rfl) ?_
    refine va_get (D := (dC, dI)) (ci := 8) (v := .ref a_tp) (C := RX8) (T := TX8) (N := 9) hx hb hts hiX8 hown hK hP 0 rfl rfl 0 (by decide) w__fieldLink_RX8_42_ShellHeap_RulesReader_tape_LShellHeap_Tape_ (fun _ h9 => h9) rfl dX8_readTitle_34 ?_
    refine lv_iconst (v := 1) hx hb dX8_readTitle_37 (by decide) ?_
    obtain ⟨hPc, hDc, hFc⟩ := z_sub3 (ws' := [(a_tp, .inr (10, [.ref a_tb, .int tt, .int ta, .int tj, .int tf, .int ts, .int te, .int to, .int tg, .int tx, .int ty]))]) hP hD hS hA [3] (by decide) rfl
    have hKc := hK.sub (tys' := []) [] rfl
    refine va_calli (va_runV (As := [.int 1]) (rest := []) ⟨hx, hb, hml, hown, hts⟩ (s_X10_fail l dC dI s.heap.size a_tp 1 (.ref a_tb) (.int tt) (.int ta) (.int tj) (.int tf) ts (.int te) (.int to) (.int tg) tx ty hB_ts) (cwV 1 hts gw_s_X8_readTitle_s_X10_fail_67 rfl rfl rfl (by decide +kernel) ⟨Nat.le_of_ble_eq_true rfl, Nat.le_of_ble_eq_true rfl⟩) ⟨z_blind, va_recv hKc hPc (ci := 10) (q0 := 0) rfl rfl, z_pre hPc hKc hDc⟩ rfl rfl hl.1 rfl (lv_room (Nat.le_of_ble_eq_true rfl)) dX8_readTitle_38 ⟨Nat.le_of_ble_eq_true rfl, Nat.le_of_ble_eq_true rfl⟩) hS (fun q _ h => hFc q h) hFc (fun r_5 u t H_4 locs ht hvm hw_6 hB hz1 hk1 hS => ?_)
    obtain ⟨n_h0_faultSort_7, n_h0_faultPlace_8, hP1, hK1, hD1⟩ := hB
    rw [ht] at hP1
    have hK1 := va_K.moved hvm.symm hK1
    obtain ⟨hP, hD⟩ := z_ap_5 (va_join (wr := [(h0, .inr (8, [.ref a_tp, .ref a_t1, .ref a_t2, .ref a_w1, .int uw, .int uo, .int up, .ref a_dr, h0_8])), (a_t1, .inl (ca_t1, 6, .inl fa_t1)), (a_t2, .inl (ca_t2, 6, .inl fa_t2)), (a_tb, .inl (ca_tb, 700, .inl fa_tb)), (a_dr, .inr (7, [.ref a_d1, .ref a_d2, .ref a_d3, .int rl, .int rc, .int rk]))]) hP hD [3] [0, 1, 2, 4, 5] rfl rfl (by decide) (by decide) hk1 hFc hP1 hD1)
    clear hPc hDc hKc
    obtain rfl : r_5 = 0 := hw_6
    refine z_backQ hQQ ?_
    obtain ⟨hP9, hD9⟩ := z_sub2 (ws' := [(h0, .inr (8, [.ref a_tp, .ref a_t1, .ref a_t2, .ref a_w1, .int uw, .int uo, .int up, .ref a_dr, h0_8])), (a_t1, .inl (ca_t1, 6, .inl fa_t1)), (a_t2, .inl (ca_t2, 6, .inl fa_t2)), (a_tp, .inr (10, [.ref a_tb, .int tt, .int ta, .int tj, .int tf, .int ts, .int te, .int to, .int tg, .int n_h0_faultSort_7, .int n_h0_faultPlace_8])), (a_tb, .inl (ca_tb, 700, .inl fa_tb)), (a_dr, .inr (7, [.ref a_d1, .ref a_d2, .ref a_d3, .int rl, .int rc, .int rk]))]) hP hD [0, 1, 2, 5, 3, 4] (by decide) rfl
    have hK9 := hK.sub (tys' := []) [] rfl
    refine W.widen (k := 0) (n := 0) (Nat.le_of_ble_eq_true rfl) (Nat.le_of_ble_eq_true rfl) ?_
    exact W.zret (v := 0) hx hb hr (by rfl) (fun t ht hW => ⟨⟨0, (), rfl, (show ((0 : Int) ≤ (0 : Int) ∧ (0 : Int) ≤ (1 : Int)) by decide), ⟨fa_t1, fa_t2, ta, ts, te, to, tg, n_h0_faultSort_7, n_h0_faultPlace_8, hB_ta, hB_ts, hB_te, by rw [ht]; exact hP9, va_K.moved hW.alike hK9, hD9⟩⟩, hS.F ht⟩) hS.2.2 dX8_readTitle_41
  · have k_9 : (to).toInt = (1 : Int) := z_eq c_2
    obtain rfl : to = 1 := z_eq' (show (to).toInt = (1 : Int) by omega)
    refine lv_iload_n hx hb dX8_readTitle_27 rfl (lv_at hl 0 rfl) ?_
    refine lv_bipush (v := 8) hx hb dX8_readTitle_28 (by decide) ?_
    refine lv_icmp_le (tgt := 42) hx hb dX8_readTitle_30 (by decide) (fun c_11 => ?_) (fun c_11 => ?_)
    · have k_12 : (z_1).toInt ≤ (8 : Int) := z_le c_11
      refine lv_aload_n hx hb dX8_readTitle_42 rfl (lv_at hl 1 rfl) ?_
      refine va_get (D := (dC, dI)) (ci := 8) (v := .ref a_tp) (C := RX8) (T := TX8) (N := 9) hx hb hts hiX8 hown hK hP 0 rfl rfl 0 (by decide) w__fieldLink_RX8_42_ShellHeap_RulesReader_tape_LShellHeap_Tape_ (fun _ h9 => h9) rfl dX8_readTitle_43 ?_
      refine va_ldcS hx hb hown hST.2.2.2.2.2.1 dX8_readTitle_46 ?_
      obtain ⟨hPc, hDc⟩ := z_sub2 (ws' := [(a_tp, .inr (10, [.ref a_tb, .int tt, .int ta, .int tj, .int tf, .int ts, .int te, .int 1, .int tg, .int tx, .int ty])), (a_tb, .inl (ca_tb, 700, .inl fa_tb))]) hP hD [3, 4] (by decide) rfl
      have hKc := hK.sub (tys' := [(ca_tb, .int)]) [2] rfl
      have hFc := va_free (ws := []) (wc := []) (z_D0 _) hS hA [] rfl
      refine va_calli (va_runV (As := [.ref (sd 2)]) (rest := []) ⟨hx, hb, hml, hown, hts⟩ (s_X10_wordIn l dC dI s.heap.size sd sv sf 2 a_tp a_tb tt (.int ta) (.int tj) (.int tf) ts te 1 (.int tg) (.int tx) (.int ty) ca_tb fa_tb hB_tt hB_ts hB_te hI_a_tb (by decide)) (cwV 1 hts gw_s_X8_readTitle_s_X10_wordIn_63 rfl rfl rfl (by decide +kernel) ⟨Nat.le_of_ble_eq_true rfl, Nat.le_of_ble_eq_true rfl⟩) ⟨z_blindS, va_recv hKc hPc (ci := 10) (q0 := 0) rfl rfl, z_preS hPc hKc hDc ((hST.kept hS.2.1).narrow hFc)⟩ rfl rfl hl.1 rfl (lv_room (Nat.le_of_ble_eq_true rfl)) dX8_readTitle_48 ⟨Nat.le_of_ble_eq_true rfl, Nat.le_of_ble_eq_true rfl⟩) hS (fun q _ h => hFc q h) hFc (fun r_14 u t H_13 locs ht hvm hw_15 hB hz1 hk1 hS => ?_)
      replace hP := z_pure hP hk1
      clear hPc hDc hKc
      refine lv_iconst (v := (-1)) hx hb dX8_readTitle_51 (by decide) ?_
      refine lv_icmp_ne (tgt := 68) hx hb dX8_readTitle_52 (by decide) (fun c_16 => ?_) (fun c_16 => ?_)
      · have k_17 : (r_14).toInt ≠ (-1 : Int) := z_ne c_16
        refine lv_aload_n hx hb dX8_readTitle_68 rfl (lv_at hl 1 rfl) ?_
        refine va_get (D := (dC, dI)) (ci := 8) (v := .ref a_tp) (C := RX8) (T := TX8) (N := 9) hx hb hts hiX8 hown hK hP 0 rfl rfl 0 (by decide) w__fieldLink_RX8_42_ShellHeap_RulesReader_tape_LShellHeap_Tape_ (fun _ h9 => h9) rfl dX8_readTitle_69 ?_
        refine lv_iconst (v := 1) hx hb dX8_readTitle_72 (by decide) ?_
        obtain ⟨hPc, hDc, hFc⟩ := z_sub3 (ws' := [(a_tp, .inr (10, [.ref a_tb, .int tt, .int ta, .int tj, .int tf, .int ts, .int te, .int 1, .int tg, .int tx, .int ty]))]) hP hD hS hA [3] (by decide) rfl
        have hKc := hK.sub (tys' := []) [] rfl
        refine va_calli (va_runV (As := [.int 1]) (rest := []) ⟨hx, hb, hml, hown, hts⟩ (s_X10_fail l dC dI H_13.size a_tp 1 (.ref a_tb) (.int tt) (.int ta) (.int tj) (.int tf) ts (.int te) (.int 1) (.int tg) tx ty hB_ts) (cwV 1 hts gw_s_X8_readTitle_s_X10_fail_67 rfl rfl rfl (by decide +kernel) ⟨Nat.le_of_ble_eq_true rfl, Nat.le_of_ble_eq_true rfl⟩) ⟨z_blind, va_recv hKc hPc (ci := 10) (q0 := 0) rfl rfl, z_pre hPc hKc hDc⟩ rfl rfl hl.1 rfl (lv_room (Nat.le_of_ble_eq_true rfl)) dX8_readTitle_73 ⟨Nat.le_of_ble_eq_true rfl, Nat.le_of_ble_eq_true rfl⟩) hS (fun q _ h => hFc q h) hFc (fun r_19 u t H_18 locs ht hvm hw_20 hB hz1 hk1 hS => ?_)
        obtain ⟨n_h0_faultSort_21, n_h0_faultPlace_22, hP1, hK1, hD1⟩ := hB
        rw [ht] at hP1
        have hK1 := va_K.moved hvm.symm hK1
        obtain ⟨hP, hD⟩ := z_ap_5 (va_join (wr := [(h0, .inr (8, [.ref a_tp, .ref a_t1, .ref a_t2, .ref a_w1, .int uw, .int uo, .int up, .ref a_dr, h0_8])), (a_t1, .inl (ca_t1, 6, .inl fa_t1)), (a_t2, .inl (ca_t2, 6, .inl fa_t2)), (a_tb, .inl (ca_tb, 700, .inl fa_tb)), (a_dr, .inr (7, [.ref a_d1, .ref a_d2, .ref a_d3, .int rl, .int rc, .int rk]))]) hP hD [3] [0, 1, 2, 4, 5] rfl rfl (by decide) (by decide) hk1 hFc hP1 hD1)
        clear hPc hDc hKc
        obtain rfl : r_19 = 0 := hw_20
        refine z_backQ hQQ ?_
        obtain ⟨hP9, hD9⟩ := z_sub2 (ws' := [(h0, .inr (8, [.ref a_tp, .ref a_t1, .ref a_t2, .ref a_w1, .int uw, .int uo, .int up, .ref a_dr, h0_8])), (a_t1, .inl (ca_t1, 6, .inl fa_t1)), (a_t2, .inl (ca_t2, 6, .inl fa_t2)), (a_tp, .inr (10, [.ref a_tb, .int tt, .int ta, .int tj, .int tf, .int ts, .int te, .int 1, .int tg, .int n_h0_faultSort_21, .int n_h0_faultPlace_22])), (a_tb, .inl (ca_tb, 700, .inl fa_tb)), (a_dr, .inr (7, [.ref a_d1, .ref a_d2, .ref a_d3, .int rl, .int rc, .int rk]))]) hP hD [0, 1, 2, 5, 3, 4] (by decide) rfl
        have hK9 := hK.sub (tys' := []) [] rfl
        refine W.widen (k := 0) (n := 0) (Nat.le_of_ble_eq_true rfl) (Nat.le_of_ble_eq_true rfl) ?_
        exact W.zret (v := 0) hx hb hr (by rfl) (fun t ht hW => ⟨⟨0, (), rfl, (show ((0 : Int) ≤ (0 : Int) ∧ (0 : Int) ≤ (1 : Int)) by decide), ⟨fa_t1, fa_t2, ta, ts, te, 1, tg, n_h0_faultSort_21, n_h0_faultPlace_22, hB_ta, hB_ts, hB_te, by rw [ht]; exact hP9, va_K.moved hW.alike hK9, hD9⟩⟩, hS.F ht⟩) hS.2.2 dX8_readTitle_76
      · have k_23 : (r_14).toInt = (-1 : Int) := z_eq c_16
        obtain rfl : r_14 = (-1) := z_eq' (show (r_14).toInt = (-1 : Int) by omega)
        refine lv_aload_n hx hb dX8_readTitle_55 rfl (lv_at hl 1 rfl) ?_
        refine va_get (D := (dC, dI)) (ci := 8) (v := .ref a_tp) (C := RX8) (T := TX8) (N := 9) hx hb hts hiX8 hown hK hP 0 rfl rfl 0 (by decide) w__fieldLink_RX8_42_ShellHeap_RulesReader_tape_LShellHeap_Tape_ (fun _ h9 => h9) rfl dX8_readTitle_56 ?_
        refine va_ldcS hx hb hown hST.2.2.2.2.2.2.1 dX8_readTitle_59 ?_
        obtain ⟨hPc, hDc⟩ := z_sub2 (ws' := [(a_tp, .inr (10, [.ref a_tb, .int tt, .int ta, .int tj, .int tf, .int ts, .int te, .int 1, .int tg, .int tx, .int ty])), (a_tb, .inl (ca_tb, 700, .inl fa_tb))]) hP hD [3, 4] (by decide) rfl
        have hKc := hK.sub (tys' := [(ca_tb, .int)]) [2] rfl
        have hFc := va_free (ws := []) (wc := []) (z_D0 _) hS hA [] rfl
        refine va_calli (va_runV (As := [.ref (sd 3)]) (rest := []) ⟨hx, hb, hml, hown, hts⟩ (s_X10_wordIn l dC dI H_13.size sd sv sf 3 a_tp a_tb tt (.int ta) (.int tj) (.int tf) ts te 1 (.int tg) (.int tx) (.int ty) ca_tb fa_tb hB_tt hB_ts hB_te hI_a_tb (by decide)) (cwV 1 hts gw_s_X8_readTitle_s_X10_wordIn_63 rfl rfl rfl (by decide +kernel) ⟨Nat.le_of_ble_eq_true rfl, Nat.le_of_ble_eq_true rfl⟩) ⟨z_blindS, va_recv hKc hPc (ci := 10) (q0 := 0) rfl rfl, z_preS hPc hKc hDc ((hST.kept hS.2.1).narrow hFc)⟩ rfl rfl hl.1 rfl (lv_room (Nat.le_of_ble_eq_true rfl)) dX8_readTitle_61 ⟨Nat.le_of_ble_eq_true rfl, Nat.le_of_ble_eq_true rfl⟩) hS (fun q _ h => hFc q h) hFc (fun r_26 u t H_25 locs ht hvm hw_27 hB hz1 hk1 hS => ?_)
        replace hP := z_pure hP hk1
        clear hPc hDc hKc
        refine lv_iconst (v := (-1)) hx hb dX8_readTitle_64 (by decide) ?_
        refine lv_icmp_eq (tgt := 77) hx hb dX8_readTitle_65 (by decide) (fun c_28 => ?_) (fun c_28 => ?_)
        · have k_29 : (r_26).toInt = (-1 : Int) := z_eq c_28
          obtain rfl : r_26 = (-1) := z_eq' (show (r_26).toInt = (-1 : Int) by omega)
          refine lv_iconst (v := 0) hx hb dX8_readTitle_77 (by decide) ?_
          refine lv_istore_n (lv' := [(2, .int 0), (1, .int z_1), (0, .ref h0)]) hx hb dX8_readTitle_78 rfl hl (by decide) rfl (fun ls hl => ?_)
          have loop_31 : ∀ (n_32 : Nat) (i_34 : Int32) (H : Heap) (locs : List Loc) (ls : Array Slot), (7 - (i_34).toInt).toNat < n_32 → (((0 : Int) ≤ (i_34).toInt ∧ (i_34).toInt ≤ (6 : Int))) → va_P (dC, dI) vwCl [(h0, .inr (8, [.ref a_tp, .ref a_t1, .ref a_t2, .ref a_w1, .int uw, .int uo, .int up, .ref a_dr, h0_8])), (a_t1, .inl (ca_t1, 6, .inl fa_t1)), (a_t2, .inl (ca_t2, 6, .inl fa_t2)), (a_tp, .inr (10, [.ref a_tb, .int tt, .int ta, .int tj, .int tf, .int ts, .int te, .int 1, .int tg, .int tx, .int ty])), (a_tb, .inl (ca_tb, 700, .inl fa_tb)), (a_dr, .inr (7, [.ref a_d1, .ref a_d2, .ref a_d3, .int rl, .int rc, .int rk]))] H → va_D A [(h0, .inr (8, [.ref a_tp, .ref a_t1, .ref a_t2, .ref a_w1, .int uw, .int uo, .int up, .ref a_dr, h0_8])), (a_t1, .inl (ca_t1, 6, .inl fa_t1)), (a_t2, .inl (ca_t2, 6, .inl fa_t2)), (a_tp, .inr (10, [.ref a_tb, .int tt, .int ta, .int tj, .int tf, .int ts, .int te, .int 1, .int tg, .int tx, .int ty])), (a_tb, .inl (ca_tb, 700, .inl fa_tb)), (a_dr, .inr (7, [.ref a_d1, .ref a_d2, .ref a_d3, .int rl, .int rc, .int rk]))] → va_S A s.heap H locs → lv_has ls 3 [(2, .int i_34), (1, .int z_1), (0, .ref h0)] → W p l e ({ frames := 5, cells := 0, slots := 0, locals := 111 } : Room) s m ([.ref h0] : List Value).toArray below meth c H locs 0 0 QQ (F0 m 79 ls []) := by
            intro n_32
            induction n_32 with
            | zero => intro i_34 H locs ls hm; exact absurd hm (Nat.not_lt_zero _)
            | succ n_32 ih_33 =>
              intro i_34 H locs ls hm hF_35 hP hD hS hl
              refine lv_iload_n hx hb dX8_readTitle_79 rfl (lv_at hl 0 rfl) ?_
              refine lv_aload_n hx hb dX8_readTitle_80 rfl (lv_at hl 2 rfl) ?_
              refine va_get (D := (dC, dI)) (ci := 8) (v := .ref a_dr) (C := RX8) (T := TX8) (N := 9) hx hb hts hiX8 hown hK hP 0 rfl rfl 7 (by decide) w__fieldLink_RX8_35_ShellHeap_RulesReader_draft_LShellHeap_Rules_ (fun _ h9 => h9) rfl dX8_readTitle_81 ?_
              refine va_get (D := (dC, dI)) (ci := 7) (v := .int rc) (C := RX7) (T := TX7) (N := 6) hx hb hts hiX7 hown hK hP 5 rfl rfl 4 (by decide) w__fieldLink_RX8_71_ShellHeap_Rules_causes_I_ (fun _ h9 => h9) rfl dX8_readTitle_84 ?_
              refine lv_icmp_ge (tgt := 127) hx hb dX8_readTitle_87 (by decide) (fun c_36 => ?_) (fun c_36 => ?_)
              · have k_37 : (rc).toInt ≤ (i_34).toInt := z_le c_36
                refine lv_aload_n hx hb dX8_readTitle_127 rfl (lv_at hl 2 rfl) ?_
                refine va_get (D := (dC, dI)) (ci := 8) (v := .ref a_t1) (C := RX8) (T := TX8) (N := 9) hx hb hts hiX8 hown hK hP 0 rfl rfl 1 (by decide) w__fieldLink_RX8_11_ShellHeap_RulesReader_titleStarts_I_ (fun _ h9 => h9) rfl dX8_readTitle_128 ?_
                refine lv_aload_n hx hb dX8_readTitle_131 rfl (lv_at hl 2 rfl) ?_
                refine va_get (D := (dC, dI)) (ci := 8) (v := .ref a_dr) (C := RX8) (T := TX8) (N := 9) hx hb hts hiX8 hown hK hP 0 rfl rfl 7 (by decide) w__fieldLink_RX8_35_ShellHeap_RulesReader_draft_LShellHeap_Rules_ (fun _ h9 => h9) rfl dX8_readTitle_132 ?_
                refine va_get (D := (dC, dI)) (ci := 7) (v := .int rc) (C := RX7) (T := TX7) (N := 6) hx hb hts hiX7 hown hK hP 5 rfl rfl 4 (by decide) w__fieldLink_RX8_71_ShellHeap_Rules_causes_I_ (fun _ h9 => h9) rfl dX8_readTitle_135 ?_
                refine lv_aload_n hx hb dX8_readTitle_138 rfl (lv_at hl 2 rfl) ?_
                refine va_get (D := (dC, dI)) (ci := 8) (v := .ref a_tp) (C := RX8) (T := TX8) (N := 9) hx hb hts hiX8 hown hK hP 0 rfl rfl 0 (by decide) w__fieldLink_RX8_42_ShellHeap_RulesReader_tape_LShellHeap_Tape_ (fun _ h9 => h9) rfl dX8_readTitle_139 ?_
                refine va_get (D := (dC, dI)) (ci := 10) (v := .int ts) (C := RX10) (T := TX10) (N := 11) hx hb hts hiX10 hown hK hP 3 rfl rfl 5 (by decide) w__fieldLink_RX8_92_ShellHeap_Tape_start_I_ (fun _ h9 => h9) rfl dX8_readTitle_142 ?_
                refine va_iast hx hb hK hP hD hS 1 0 rfl rfl (z_vpinB hB_rc (by decide) (by decide)) dX8_readTitle_145 (fun H_38 locs hP hD hS => ?_)
                obtain ⟨hP, hD⟩ := z_s_1 hP hD
                generalize (upd fa_t1 (rc : Int32).toNatClampNeg ts) = f_39 at hP hD
                refine lv_aload_n hx hb dX8_readTitle_146 rfl (lv_at hl 2 rfl) ?_
                refine va_get (D := (dC, dI)) (ci := 8) (v := .ref a_t2) (C := RX8) (T := TX8) (N := 9) hx hb hts hiX8 hown hK hP 0 rfl rfl 2 (by decide) w__fieldLink_RX8_17_ShellHeap_RulesReader_titleLengths_I_ (fun _ h9 => h9) rfl dX8_readTitle_147 ?_
                refine lv_aload_n hx hb dX8_readTitle_150 rfl (lv_at hl 2 rfl) ?_
                refine va_get (D := (dC, dI)) (ci := 8) (v := .ref a_dr) (C := RX8) (T := TX8) (N := 9) hx hb hts hiX8 hown hK hP 0 rfl rfl 7 (by decide) w__fieldLink_RX8_35_ShellHeap_RulesReader_draft_LShellHeap_Rules_ (fun _ h9 => h9) rfl dX8_readTitle_151 ?_
                refine va_get (D := (dC, dI)) (ci := 7) (v := .int rc) (C := RX7) (T := TX7) (N := 6) hx hb hts hiX7 hown hK hP 5 rfl rfl 4 (by decide) w__fieldLink_RX8_71_ShellHeap_Rules_causes_I_ (fun _ h9 => h9) rfl dX8_readTitle_154 ?_
                refine lv_iload_n hx hb dX8_readTitle_157 rfl (lv_at hl 1 rfl) ?_
                refine va_iast hx hb hK hP hD hS 2 1 rfl rfl (z_vpinB hB_rc (by decide) (by decide)) dX8_readTitle_158 (fun H_40 locs hP hD hS => ?_)
                obtain ⟨hP, hD⟩ := z_s_2 hP hD
                generalize (upd fa_t2 (rc : Int32).toNatClampNeg z_1) = f_41 at hP hD
                refine lv_aload_n hx hb dX8_readTitle_159 rfl (lv_at hl 2 rfl) ?_
                refine va_get (D := (dC, dI)) (ci := 8) (v := .ref a_tp) (C := RX8) (T := TX8) (N := 9) hx hb hts hiX8 hown hK hP 0 rfl rfl 0 (by decide) w__fieldLink_RX8_42_ShellHeap_RulesReader_tape_LShellHeap_Tape_ (fun _ h9 => h9) rfl dX8_readTitle_160 ?_
                obtain ⟨hPc, hDc, hFc⟩ := z_sub3 (ws' := [(a_tp, .inr (10, [.ref a_tb, .int tt, .int ta, .int tj, .int tf, .int ts, .int te, .int 1, .int tg, .int tx, .int ty])), (a_tb, .inl (ca_tb, 700, .inl fa_tb))]) hP hD hS hA [3, 4] (by decide) rfl
                have hKc := hK.sub (tys' := [(ca_tb, .int)]) [2] rfl
                refine va_callv (va_runV (As := []) (rest := []) ⟨hx, hb, hml, hown, hts⟩ (s_X10_next l dC dI H_40.size a_tp a_tb tt ta tj tf ts te 1 tg tx ty ca_tb fa_tb hB_tt hB_ta hB_tf hB_ts hB_te hI_a_tb) (cwV 0 hts gw_s_X8_readTitle_s_X10_next_74 rfl rfl rfl (by decide +kernel) ⟨Nat.le_of_ble_eq_true rfl, Nat.le_of_ble_eq_true rfl⟩) ⟨z_blind, va_recv hKc hPc (ci := 10) (q0 := 0) rfl rfl, z_pre hPc hKc hDc⟩ rfl rfl hl.1 rfl (lv_room (Nat.le_of_ble_eq_true rfl)) dX8_readTitle_163 ⟨Nat.le_of_ble_eq_true rfl, Nat.le_of_ble_eq_true rfl⟩) hS (fun q _ h => hFc q h) hFc (fun u t H_42 locs ht hvm hw_44 hB hz1 hk1 hS => ?_)
                obtain ⟨n_h0_at_45, n_h0_start_46, n_h0_end_47, n_h0_sort_48, n_h0_sign_49, hp_50, hp_51, hp_52, hP1, hK1, hD1⟩ := hB
                rw [ht] at hP1
                have hK1 := va_K.moved hvm.symm hK1
                obtain ⟨hP, hD⟩ := z_ap_4 (va_join (wr := [(h0, .inr (8, [.ref a_tp, .ref a_t1, .ref a_t2, .ref a_w1, .int uw, .int uo, .int up, .ref a_dr, h0_8])), (a_t1, .inl (ca_t1, 6, .inl f_39)), (a_t2, .inl (ca_t2, 6, .inl f_41)), (a_dr, .inr (7, [.ref a_d1, .ref a_d2, .ref a_d3, .int rl, .int rc, .int rk]))]) hP hD [3, 4] [0, 1, 2, 5] rfl rfl (by decide) (by decide) hk1 hFc hP1 hD1)
                clear hPc hDc hKc
                refine lv_iconst (v := 1) hx hb dX8_readTitle_166 (by decide) ?_
                refine z_backQ hQQ ?_
                obtain ⟨hP9, hD9⟩ := z_sub2 (ws' := [(h0, .inr (8, [.ref a_tp, .ref a_t1, .ref a_t2, .ref a_w1, .int uw, .int uo, .int up, .ref a_dr, h0_8])), (a_t1, .inl (ca_t1, 6, .inl f_39)), (a_t2, .inl (ca_t2, 6, .inl f_41)), (a_tp, .inr (10, [.ref a_tb, .int tt, .int n_h0_at_45, .int tj, .int tf, .int n_h0_start_46, .int n_h0_end_47, .int n_h0_sort_48, .int n_h0_sign_49, .int tx, .int ty])), (a_tb, .inl (ca_tb, 700, .inl fa_tb)), (a_dr, .inr (7, [.ref a_d1, .ref a_d2, .ref a_d3, .int rl, .int rc, .int rk]))]) hP hD [0, 1, 2, 4, 5, 3] (by decide) rfl
                have hK9 := hK.sub (tys' := []) [] rfl
                refine W.widen (k := 0) (n := 0) (Nat.le_of_ble_eq_true rfl) (Nat.le_of_ble_eq_true rfl) ?_
                exact W.zret (v := 1) hx hb hr (by rfl) (fun t ht hW => ⟨⟨1, (), rfl, (show ((0 : Int) ≤ (1 : Int) ∧ (1 : Int) ≤ (1 : Int)) by decide), ⟨f_39, f_41, n_h0_at_45, n_h0_start_46, n_h0_end_47, n_h0_sort_48, n_h0_sign_49, tx, ty, hp_50, hp_51, hp_52, by rw [ht]; exact hP9, va_K.moved hW.alike hK9, hD9⟩⟩, hS.F ht⟩) hS.2.2 dX8_readTitle_167
              · have k_53 : (rc).toInt > (i_34).toInt := z_nle c_36
                refine lv_aload_n hx hb dX8_readTitle_90 rfl (lv_at hl 2 rfl) ?_
                refine va_get (D := (dC, dI)) (ci := 8) (v := .ref a_tp) (C := RX8) (T := TX8) (N := 9) hx hb hts hiX8 hown hK hP 0 rfl rfl 0 (by decide) w__fieldLink_RX8_42_ShellHeap_RulesReader_tape_LShellHeap_Tape_ (fun _ h9 => h9) rfl dX8_readTitle_91 ?_
                refine lv_aload_n hx hb dX8_readTitle_94 rfl (lv_at hl 2 rfl) ?_
                refine va_get (D := (dC, dI)) (ci := 8) (v := .ref a_t1) (C := RX8) (T := TX8) (N := 9) hx hb hts hiX8 hown hK hP 0 rfl rfl 1 (by decide) w__fieldLink_RX8_11_ShellHeap_RulesReader_titleStarts_I_ (fun _ h9 => h9) rfl dX8_readTitle_95 ?_
                refine lv_iload_n hx hb dX8_readTitle_98 rfl (lv_at hl 0 rfl) ?_
                refine va_iald hx hb hK hP 1 0 rfl rfl (z_vpin (by omega) (by omega)) dX8_readTitle_99 ?_
                refine lv_topi (fun z_54 ez_54 => ?_)
                refine lv_aload_n hx hb dX8_readTitle_100 rfl (lv_at hl 2 rfl) ?_
                refine va_get (D := (dC, dI)) (ci := 8) (v := .ref a_t2) (C := RX8) (T := TX8) (N := 9) hx hb hts hiX8 hown hK hP 0 rfl rfl 2 (by decide) w__fieldLink_RX8_17_ShellHeap_RulesReader_titleLengths_I_ (fun _ h9 => h9) rfl dX8_readTitle_101 ?_
                refine lv_iload_n hx hb dX8_readTitle_104 rfl (lv_at hl 0 rfl) ?_
                refine va_iald hx hb hK hP 2 1 rfl rfl (z_vpin (by omega) (by omega)) dX8_readTitle_105 ?_
                refine lv_topi (fun z_55 ez_55 => ?_)
                obtain ⟨hPc, hDc⟩ := z_sub2 (ws' := [(a_tp, .inr (10, [.ref a_tb, .int tt, .int ta, .int tj, .int tf, .int ts, .int te, .int 1, .int tg, .int tx, .int ty])), (a_tb, .inl (ca_tb, 700, .inl fa_tb))]) hP hD [3, 4] (by decide) rfl
                have hKc := hK.sub (tys' := [(ca_tb, .int)]) [2] rfl
                have hFc := va_free (ws := []) (wc := []) (z_D0 _) hS hA [] rfl
                refine va_calli (va_runV (As := [.int z_54, .int z_55]) (rest := []) ⟨hx, hb, hml, hown, hts⟩ (s_X10_isInHandAt l dC dI H.size a_tp z_54 z_55 a_tb tt (.int ta) (.int tj) (.int tf) ts te (.int 1) (.int tg) (.int tx) (.int ty) ca_tb fa_tb hB_tt hB_ts hB_te hI_a_tb) (cwV 2 hts gw_s_X8_readTitle_s_X10_isInHandAt_99 rfl rfl rfl (by decide +kernel) ⟨Nat.le_of_ble_eq_true rfl, Nat.le_of_ble_eq_true rfl⟩) ⟨z_blind, va_recv hKc hPc (ci := 10) (q0 := 0) rfl rfl, z_pre hPc hKc hDc⟩ rfl rfl hl.1 rfl (lv_room (Nat.le_of_ble_eq_true rfl)) dX8_readTitle_106 ⟨Nat.le_of_ble_eq_true rfl, Nat.le_of_ble_eq_true rfl⟩) hS (fun q _ h => hFc q h) hFc (fun r_57 u t H_56 locs ht hvm hw_58 hB hz1 hk1 hS => ?_)
                replace hP := z_pure hP hk1
                clear hPc hDc hKc
                refine lv_if_eq (tgt := 121) hx hb dX8_readTitle_109 (by decide) (fun c_59 => ?_) (fun c_59 => ?_)
                · have k_60 : (r_57).toInt = (0 : Int) := z_eq c_59
                  obtain rfl : r_57 = 0 := z_eq' (show (r_57).toInt = (0 : Int) by omega)
                  obtain ⟨z_62, ez_62⟩ : ∃ y : Int32, y = i_34 + 1 := ⟨_, rfl⟩
                  have kz_62 : (z_62).toInt = (i_34).toInt + (1 : Int) := by rw [ez_62]; exact z_add (b := 1) rfl rfl (z_al hF_35.1 (by decide)) (z_ah hF_35.2 (by decide))
                  refine lv_iinc (v := z_62) (lv' := [(2, .int z_62), (1, .int z_1), (0, .ref h0)]) hx hb dX8_readTitle_121 hl (k := 0) rfl (by rw [ez_62]; rfl) (by decide) rfl (fun ls hl => ?_)
                  refine lv_goto (tgt := 79) hx hb dX8_readTitle_124 (by decide) ?_
                  exact ih_33 z_62 _ _ _ (show (7 - (z_62).toInt).toNat < n_32 by omega) (show ((0 : Int) ≤ (z_62).toInt ∧ (z_62).toInt ≤ (6 : Int)) by omega) hP hD hS (lv_sub hl [0, 1, 2] rfl)
                · have k_63 : (r_57).toInt ≠ (0 : Int) := z_ne c_59
                  obtain rfl : r_57 = 1 := z_eq' (show (r_57).toInt = (1 : Int) by omega)
                  refine lv_aload_n hx hb dX8_readTitle_112 rfl (lv_at hl 2 rfl) ?_
                  refine va_get (D := (dC, dI)) (ci := 8) (v := .ref a_tp) (C := RX8) (T := TX8) (N := 9) hx hb hts hiX8 hown hK hP 0 rfl rfl 0 (by decide) w__fieldLink_RX8_42_ShellHeap_RulesReader_tape_LShellHeap_Tape_ (fun _ h9 => h9) rfl dX8_readTitle_113 ?_
                  refine lv_iconst (v := 3) hx hb dX8_readTitle_116 (by decide) ?_
                  obtain ⟨hPc, hDc, hFc⟩ := z_sub3 (ws' := [(a_tp, .inr (10, [.ref a_tb, .int tt, .int ta, .int tj, .int tf, .int ts, .int te, .int 1, .int tg, .int tx, .int ty]))]) hP hD hS hA [3] (by decide) rfl
                  have hKc := hK.sub (tys' := []) [] rfl
                  refine va_calli (va_runV (As := [.int 3]) (rest := []) ⟨hx, hb, hml, hown, hts⟩ (s_X10_fail l dC dI H_56.size a_tp 3 (.ref a_tb) (.int tt) (.int ta) (.int tj) (.int tf) ts (.int te) (.int 1) (.int tg) tx ty hB_ts) (cwV 1 hts gw_s_X8_readTitle_s_X10_fail_67 rfl rfl rfl (by decide +kernel) ⟨Nat.le_of_ble_eq_true rfl, Nat.le_of_ble_eq_true rfl⟩) ⟨z_blind, va_recv hKc hPc (ci := 10) (q0 := 0) rfl rfl, z_pre hPc hKc hDc⟩ rfl rfl hl.1 rfl (lv_room (Nat.le_of_ble_eq_true rfl)) dX8_readTitle_117 ⟨Nat.le_of_ble_eq_true rfl, Nat.le_of_ble_eq_true rfl⟩) hS (fun q _ h => hFc q h) hFc (fun r_66 u t H_65 locs ht hvm hw_67 hB hz1 hk1 hS => ?_)
                  obtain ⟨n_h0_faultSort_68, n_h0_faultPlace_69, hP1, hK1, hD1⟩ := hB
                  rw [ht] at hP1
                  have hK1 := va_K.moved hvm.symm hK1
                  obtain ⟨hP, hD⟩ := z_ap_5 (va_join (wr := [(h0, .inr (8, [.ref a_tp, .ref a_t1, .ref a_t2, .ref a_w1, .int uw, .int uo, .int up, .ref a_dr, h0_8])), (a_t1, .inl (ca_t1, 6, .inl fa_t1)), (a_t2, .inl (ca_t2, 6, .inl fa_t2)), (a_tb, .inl (ca_tb, 700, .inl fa_tb)), (a_dr, .inr (7, [.ref a_d1, .ref a_d2, .ref a_d3, .int rl, .int rc, .int rk]))]) hP hD [3] [0, 1, 2, 4, 5] rfl rfl (by decide) (by decide) hk1 hFc hP1 hD1)
                  clear hPc hDc hKc
                  obtain rfl : r_66 = 0 := hw_67
                  refine z_backQ hQQ ?_
                  obtain ⟨hP9, hD9⟩ := z_sub2 (ws' := [(h0, .inr (8, [.ref a_tp, .ref a_t1, .ref a_t2, .ref a_w1, .int uw, .int uo, .int up, .ref a_dr, h0_8])), (a_t1, .inl (ca_t1, 6, .inl fa_t1)), (a_t2, .inl (ca_t2, 6, .inl fa_t2)), (a_tp, .inr (10, [.ref a_tb, .int tt, .int ta, .int tj, .int tf, .int ts, .int te, .int 1, .int tg, .int n_h0_faultSort_68, .int n_h0_faultPlace_69])), (a_tb, .inl (ca_tb, 700, .inl fa_tb)), (a_dr, .inr (7, [.ref a_d1, .ref a_d2, .ref a_d3, .int rl, .int rc, .int rk]))]) hP hD [0, 1, 2, 5, 3, 4] (by decide) rfl
                  have hK9 := hK.sub (tys' := []) [] rfl
                  refine W.widen (k := 0) (n := 0) (Nat.le_of_ble_eq_true rfl) (Nat.le_of_ble_eq_true rfl) ?_
                  exact W.zret (v := 0) hx hb hr (by rfl) (fun t ht hW => ⟨⟨0, (), rfl, (show ((0 : Int) ≤ (0 : Int) ∧ (0 : Int) ≤ (1 : Int)) by decide), ⟨fa_t1, fa_t2, ta, ts, te, 1, tg, n_h0_faultSort_68, n_h0_faultPlace_69, hB_ta, hB_ts, hB_te, by rw [ht]; exact hP9, va_K.moved hW.alike hK9, hD9⟩⟩, hS.F ht⟩) hS.2.2 dX8_readTitle_120
          exact loop_31 _ 0 _ _ _ (Nat.lt_succ_self _) (show ((0 : Int) ≤ (0 : Int) ∧ (0 : Int) ≤ (6 : Int)) by omega) hP hD hS hl
        · have k_70 : (r_26).toInt ≠ (-1 : Int) := z_ne c_28
          refine lv_aload_n hx hb dX8_readTitle_68 rfl (lv_at hl 1 rfl) ?_
          refine va_get (D := (dC, dI)) (ci := 8) (v := .ref a_tp) (C := RX8) (T := TX8) (N := 9) hx hb hts hiX8 hown hK hP 0 rfl rfl 0 (by decide) w__fieldLink_RX8_42_ShellHeap_RulesReader_tape_LShellHeap_Tape_ (fun _ h9 => h9) rfl dX8_readTitle_69 ?_
          refine lv_iconst (v := 1) hx hb dX8_readTitle_72 (by decide) ?_
          obtain ⟨hPc, hDc, hFc⟩ := z_sub3 (ws' := [(a_tp, .inr (10, [.ref a_tb, .int tt, .int ta, .int tj, .int tf, .int ts, .int te, .int 1, .int tg, .int tx, .int ty]))]) hP hD hS hA [3] (by decide) rfl
          have hKc := hK.sub (tys' := []) [] rfl
          refine va_calli (va_runV (As := [.int 1]) (rest := []) ⟨hx, hb, hml, hown, hts⟩ (s_X10_fail l dC dI H_25.size a_tp 1 (.ref a_tb) (.int tt) (.int ta) (.int tj) (.int tf) ts (.int te) (.int 1) (.int tg) tx ty hB_ts) (cwV 1 hts gw_s_X8_readTitle_s_X10_fail_67 rfl rfl rfl (by decide +kernel) ⟨Nat.le_of_ble_eq_true rfl, Nat.le_of_ble_eq_true rfl⟩) ⟨z_blind, va_recv hKc hPc (ci := 10) (q0 := 0) rfl rfl, z_pre hPc hKc hDc⟩ rfl rfl hl.1 rfl (lv_room (Nat.le_of_ble_eq_true rfl)) dX8_readTitle_73 ⟨Nat.le_of_ble_eq_true rfl, Nat.le_of_ble_eq_true rfl⟩) hS (fun q _ h => hFc q h) hFc (fun r_72 u t H_71 locs ht hvm hw_73 hB hz1 hk1 hS => ?_)
          obtain ⟨n_h0_faultSort_74, n_h0_faultPlace_75, hP1, hK1, hD1⟩ := hB
          rw [ht] at hP1
          have hK1 := va_K.moved hvm.symm hK1
          obtain ⟨hP, hD⟩ := z_ap_5 (va_join (wr := [(h0, .inr (8, [.ref a_tp, .ref a_t1, .ref a_t2, .ref a_w1, .int uw, .int uo, .int up, .ref a_dr, h0_8])), (a_t1, .inl (ca_t1, 6, .inl fa_t1)), (a_t2, .inl (ca_t2, 6, .inl fa_t2)), (a_tb, .inl (ca_tb, 700, .inl fa_tb)), (a_dr, .inr (7, [.ref a_d1, .ref a_d2, .ref a_d3, .int rl, .int rc, .int rk]))]) hP hD [3] [0, 1, 2, 4, 5] rfl rfl (by decide) (by decide) hk1 hFc hP1 hD1)
          clear hPc hDc hKc
          obtain rfl : r_72 = 0 := hw_73
          refine z_backQ hQQ ?_
          obtain ⟨hP9, hD9⟩ := z_sub2 (ws' := [(h0, .inr (8, [.ref a_tp, .ref a_t1, .ref a_t2, .ref a_w1, .int uw, .int uo, .int up, .ref a_dr, h0_8])), (a_t1, .inl (ca_t1, 6, .inl fa_t1)), (a_t2, .inl (ca_t2, 6, .inl fa_t2)), (a_tp, .inr (10, [.ref a_tb, .int tt, .int ta, .int tj, .int tf, .int ts, .int te, .int 1, .int tg, .int n_h0_faultSort_74, .int n_h0_faultPlace_75])), (a_tb, .inl (ca_tb, 700, .inl fa_tb)), (a_dr, .inr (7, [.ref a_d1, .ref a_d2, .ref a_d3, .int rl, .int rc, .int rk]))]) hP hD [0, 1, 2, 5, 3, 4] (by decide) rfl
          have hK9 := hK.sub (tys' := []) [] rfl
          refine W.widen (k := 0) (n := 0) (Nat.le_of_ble_eq_true rfl) (Nat.le_of_ble_eq_true rfl) ?_
          exact W.zret (v := 0) hx hb hr (by rfl) (fun t ht hW => ⟨⟨0, (), rfl, (show ((0 : Int) ≤ (0 : Int) ∧ (0 : Int) ≤ (1 : Int)) by decide), ⟨fa_t1, fa_t2, ta, ts, te, 1, tg, n_h0_faultSort_74, n_h0_faultPlace_75, hB_ta, hB_ts, hB_te, by rw [ht]; exact hP9, va_K.moved hW.alike hK9, hD9⟩⟩, hS.F ht⟩) hS.2.2 dX8_readTitle_76
    · have k_76 : (z_1).toInt > (8 : Int) := z_nle c_11
      refine lv_aload_n hx hb dX8_readTitle_33 rfl (lv_at hl 1 rfl) ?_
      refine va_get (D := (dC, dI)) (ci := 8) (v := .ref a_tp) (C := RX8) (T := TX8) (N := 9) hx hb hts hiX8 hown hK hP 0 rfl rfl 0 (by decide) w__fieldLink_RX8_42_ShellHeap_RulesReader_tape_LShellHeap_Tape_ (fun _ h9 => h9) rfl dX8_readTitle_34 ?_
      refine lv_iconst (v := 1) hx hb dX8_readTitle_37 (by decide) ?_
      obtain ⟨hPc, hDc, hFc⟩ := z_sub3 (ws' := [(a_tp, .inr (10, [.ref a_tb, .int tt, .int ta, .int tj, .int tf, .int ts, .int te, .int 1, .int tg, .int tx, .int ty]))]) hP hD hS hA [3] (by decide) rfl
      have hKc := hK.sub (tys' := []) [] rfl
      refine va_calli (va_runV (As := [.int 1]) (rest := []) ⟨hx, hb, hml, hown, hts⟩ (s_X10_fail l dC dI s.heap.size a_tp 1 (.ref a_tb) (.int tt) (.int ta) (.int tj) (.int tf) ts (.int te) (.int 1) (.int tg) tx ty hB_ts) (cwV 1 hts gw_s_X8_readTitle_s_X10_fail_67 rfl rfl rfl (by decide +kernel) ⟨Nat.le_of_ble_eq_true rfl, Nat.le_of_ble_eq_true rfl⟩) ⟨z_blind, va_recv hKc hPc (ci := 10) (q0 := 0) rfl rfl, z_pre hPc hKc hDc⟩ rfl rfl hl.1 rfl (lv_room (Nat.le_of_ble_eq_true rfl)) dX8_readTitle_38 ⟨Nat.le_of_ble_eq_true rfl, Nat.le_of_ble_eq_true rfl⟩) hS (fun q _ h => hFc q h) hFc (fun r_78 u t H_77 locs ht hvm hw_79 hB hz1 hk1 hS => ?_)
      obtain ⟨n_h0_faultSort_80, n_h0_faultPlace_81, hP1, hK1, hD1⟩ := hB
      rw [ht] at hP1
      have hK1 := va_K.moved hvm.symm hK1
      obtain ⟨hP, hD⟩ := z_ap_5 (va_join (wr := [(h0, .inr (8, [.ref a_tp, .ref a_t1, .ref a_t2, .ref a_w1, .int uw, .int uo, .int up, .ref a_dr, h0_8])), (a_t1, .inl (ca_t1, 6, .inl fa_t1)), (a_t2, .inl (ca_t2, 6, .inl fa_t2)), (a_tb, .inl (ca_tb, 700, .inl fa_tb)), (a_dr, .inr (7, [.ref a_d1, .ref a_d2, .ref a_d3, .int rl, .int rc, .int rk]))]) hP hD [3] [0, 1, 2, 4, 5] rfl rfl (by decide) (by decide) hk1 hFc hP1 hD1)
      clear hPc hDc hKc
      obtain rfl : r_78 = 0 := hw_79
      refine z_backQ hQQ ?_
      obtain ⟨hP9, hD9⟩ := z_sub2 (ws' := [(h0, .inr (8, [.ref a_tp, .ref a_t1, .ref a_t2, .ref a_w1, .int uw, .int uo, .int up, .ref a_dr, h0_8])), (a_t1, .inl (ca_t1, 6, .inl fa_t1)), (a_t2, .inl (ca_t2, 6, .inl fa_t2)), (a_tp, .inr (10, [.ref a_tb, .int tt, .int ta, .int tj, .int tf, .int ts, .int te, .int 1, .int tg, .int n_h0_faultSort_80, .int n_h0_faultPlace_81])), (a_tb, .inl (ca_tb, 700, .inl fa_tb)), (a_dr, .inr (7, [.ref a_d1, .ref a_d2, .ref a_d3, .int rl, .int rc, .int rk]))]) hP hD [0, 1, 2, 5, 3, 4] (by decide) rfl
      have hK9 := hK.sub (tys' := []) [] rfl
      refine W.widen (k := 0) (n := 0) (Nat.le_of_ble_eq_true rfl) (Nat.le_of_ble_eq_true rfl) ?_
      exact W.zret (v := 0) hx hb hr (by rfl) (fun t ht hW => ⟨⟨0, (), rfl, (show ((0 : Int) ≤ (0 : Int) ∧ (0 : Int) ≤ (1 : Int)) by decide), ⟨fa_t1, fa_t2, ta, ts, te, 1, tg, n_h0_faultSort_80, n_h0_faultPlace_81, hB_ta, hB_ts, hB_te, by rw [ht]; exact hP9, va_K.moved hW.alike hK9, hD9⟩⟩, hS.F ht⟩) hS.2.2 dX8_readTitle_41
def u_s_X8_readCause : List Cond := .code yX8_readCause cX8_readCause 1 (some .boolean) :: ([.fieldLink RX8 42 "ShellHeap$RulesReader" "tape" "LShellHeap$Tape;", .methodLink RX8 63 yX10_wordIn, .instanceMethod yX10_wordIn, .selects RX10 yX10_wordIn yX10_wordIn, .initialized RX10, .fieldLink RX8 35 "ShellHeap$RulesReader" "draft" "LShellHeap$Rules;", .fieldLink RX8 71 "ShellHeap$Rules" "causes" "I", .methodLink RX8 74 yX10_next, .instanceMethod yX10_next, .selects RX10 yX10_next yX10_next, .methodLink RX8 77 yX8_readTitle, .instanceMethod yX8_readTitle, .selects RX8 yX8_readTitle yX8_readTitle, .initialized RX8, .fieldLink RX8 80 "ShellHeap$Tape" "sign" "I", .methodLink RX8 83 yX8_readBody, .instanceMethod yX8_readBody, .selects RX8 yX8_readBody yX8_readBody, .methodLink RX8 86 yX7_endCause, .instanceMethod yX7_endCause, .selects RX7 yX7_endCause yX7_endCause, .initialized RX7, .methodLink RX8 67 yX10_fail, .instanceMethod yX10_fail, .selects RX10 yX10_fail yX10_fail] ++ (wsX80 ++ (wsX70 ++ (wsX100 ++ (u_s_X10_wordIn ++ (u_s_X10_next ++ (u_s_X8_readTitle ++ (u_s_X8_readBody ++ (u_s_X7_endCause ++ (u_s_X10_fail ++ []))))))))))
theorem gd_s_X8_readCause : z_gd u_s_X8_readCause := z_gdc (by decide +kernel) (z_gda gdX8 (z_gda gdX7 (z_gda gdX10 (z_gda gd_s_X10_wordIn (z_gda gd_s_X10_next (z_gda gd_s_X8_readTitle (z_gda gd_s_X8_readBody (z_gda gd_s_X7_endCause (z_gda gd_s_X10_fail (z_gd0))))))))))
set_option maxRecDepth 20000 in
theorem gw_s_X8_readCause_s_X10_wordIn_63 : GoodIn u_s_X8_readCause (wsV RX8 63 RX10 yX10_wordIn u_s_X10_wordIn) := z_gV (z_gr _ [2, 3, 4, 5] rfl (by decide +kernel)) (fun w h => ⟨z_mc (z_mr (z_mr (z_mr (z_mr (z_ml h))))), gd_s_X10_wordIn w h⟩)
set_option maxRecDepth 20000 in
theorem gw_s_X8_readCause_s_X10_next_74 : GoodIn u_s_X8_readCause (wsV RX8 74 RX10 yX10_next u_s_X10_next) := z_gV (z_gr _ [8, 9, 10, 5] rfl (by decide +kernel)) (fun w h => ⟨z_mc (z_mr (z_mr (z_mr (z_mr (z_mr (z_ml h)))))), gd_s_X10_next w h⟩)
set_option maxRecDepth 20000 in
theorem gw_s_X8_readCause_s_X8_readTitle_77 : GoodIn u_s_X8_readCause (wsV RX8 77 RX8 yX8_readTitle u_s_X8_readTitle) := z_gV (z_gr _ [11, 12, 13, 14] rfl (by decide +kernel)) (fun w h => ⟨z_mc (z_mr (z_mr (z_mr (z_mr (z_mr (z_mr (z_ml h))))))), gd_s_X8_readTitle w h⟩)
set_option maxRecDepth 20000 in
theorem gw_s_X8_readCause_s_X8_readBody_83 : GoodIn u_s_X8_readCause (wsV RX8 83 RX8 yX8_readBody u_s_X8_readBody) := z_gV (z_gr _ [16, 17, 18, 14] rfl (by decide +kernel)) (fun w h => ⟨z_mc (z_mr (z_mr (z_mr (z_mr (z_mr (z_mr (z_mr (z_ml h)))))))), gd_s_X8_readBody w h⟩)
set_option maxRecDepth 20000 in
theorem gw_s_X8_readCause_s_X7_endCause_86 : GoodIn u_s_X8_readCause (wsV RX8 86 RX7 yX7_endCause u_s_X7_endCause) := z_gV (z_gr _ [19, 20, 21, 22] rfl (by decide +kernel)) (fun w h => ⟨z_mc (z_mr (z_mr (z_mr (z_mr (z_mr (z_mr (z_mr (z_mr (z_ml h))))))))), gd_s_X7_endCause w h⟩)
set_option maxRecDepth 20000 in
theorem gw_s_X8_readCause_s_X10_fail_67 : GoodIn u_s_X8_readCause (wsV RX8 67 RX10 yX10_fail u_s_X10_fail) := z_gV (z_gr _ [23, 24, 25, 5] rfl (by decide +kernel)) (fun w h => ⟨z_mc (z_mr (z_mr (z_mr (z_mr (z_mr (z_mr (z_mr (z_mr (z_mr (z_ml h)))))))))), gd_s_X10_fail w h⟩)
set_option maxHeartbeats 4000000 in
set_option maxRecDepth 100000 in
theorem s_X8_readCause (l : Launch) (dC : Nat → ClassId) (dI : Nat → Nat → Nat) (sz : Nat) (sd : Nat → Nat) (sv : Nat → Nat) (sf : Value) (h0 : Nat) (a_tp : Nat) (a_t1 : Nat) (a_t2 : Nat) (a_w1 : Nat) (uw : Int32) (uo : Int32) (up : Int32) (a_dr : Nat) (h0_8 : Value) (ca_w1 : ClassId) (fa_w1 : Nat → Int32) (ca_t1 : ClassId) (fa_t1 : Nat → Int32) (ca_t2 : ClassId) (fa_t2 : Nat → Int32) (a_tb : Nat) (tt : Int32) (ta : Int32) (tj : Int32) (tf : Int32) (ts : Int32) (te : Int32) (to : Int32) (tg : Int32) (tx : Int32) (ty : Int32) (ca_tb : ClassId) (fa_tb : Nat → Int32) (a_d1 : Nat) (a_d2 : Nat) (a_d3 : Nat) (rl : Int32) (rc : Int32) (rk : Int32) (ca_d1 : ClassId) (fa_d1 : Nat → Int32) (ca_d2 : ClassId) (fa_d2 : Nat → Int32) (ca_d3 : ClassId) (fa_d3 : Nat → Int32) (hB_tt : ((0 : Int) ≤ (tt).toInt ∧ (tt).toInt ≤ (700 : Int))) (hB_ta : ((0 : Int) ≤ (ta).toInt ∧ (ta).toInt ≤ (700 : Int))) (hB_tf : ((0 : Int) ≤ (tf).toInt ∧ (tf).toInt ≤ (700 : Int))) (hB_ts : ((0 : Int) ≤ (ts).toInt ∧ (ts).toInt ≤ (700 : Int))) (hB_te : ((0 : Int) ≤ (te).toInt ∧ (te).toInt ≤ (700 : Int))) (hB_uw : ((0 : Int) ≤ (uw).toInt ∧ (uw).toInt ≤ (104 : Int))) (hB_uo : ((0 : Int) ≤ (uo).toInt ∧ (uo).toInt ≤ (8 : Int))) (hB_up : ((0 : Int) ≤ (up).toInt ∧ (up).toInt ≤ (1 : Int))) (hB_rl : ((0 : Int) ≤ (rl).toInt ∧ (rl).toInt ≤ (96 : Int))) (hB_rc : ((0 : Int) ≤ (rc).toInt ∧ (rc).toInt ≤ (6 : Int))) (hB_rk : ((0 : Int) ≤ (rk).toInt ∧ (rk).toInt ≤ (96 : Int))) (hI_a_tb : ∀ j : Nat, ((0 : Int) ≤ (fa_tb j).toInt ∧ (fa_tb j).toInt ≤ (255 : Int))) (hI_a_d3 : ∀ j : Nat, ((0 : Int) ≤ (fa_d3 j).toInt ∧ (fa_d3 j).toInt ≤ (96 : Int))) : Met l yX8_readCause u_s_X8_readCause ({ frames := 8, cells := 0, slots := 0, locals := 175 }) (va_Pc [.ref h0] (z_CS (dC, dI) vwCl [(h0, .inr (8, [.ref a_tp, .ref a_t1, .ref a_t2, .ref a_w1, .int uw, .int uo, .int up, .ref a_dr, h0_8])), (a_w1, .inl (ca_w1, 104, .inl fa_w1)), (a_t1, .inl (ca_t1, 6, .inl fa_t1)), (a_t2, .inl (ca_t2, 6, .inl fa_t2)), (a_tp, .inr (10, [.ref a_tb, .int tt, .int ta, .int tj, .int tf, .int ts, .int te, .int to, .int tg, .int tx, .int ty])), (a_tb, .inl (ca_tb, 700, .inl fa_tb)), (a_dr, .inr (7, [.ref a_d1, .ref a_d2, .ref a_d3, .int rl, .int rc, .int rk])), (a_d1, .inl (ca_d1, 96, .inl fa_d1)), (a_d2, .inl (ca_d2, 96, .inl fa_d2)), (a_d3, .inl (ca_d3, 7, .inl fa_d3))] [(ca_w1, .int), (ca_t1, .int), (ca_t2, .int), (ca_tb, .int), (ca_d1, .int), (ca_d2, .int), (ca_d3, .int)] sz sd sv sf [(h0, .inr (8, [.ref a_tp, .ref a_t1, .ref a_t2, .ref a_w1, .int uw, .int uo, .int up, .ref a_dr, h0_8])), (a_w1, .inl (ca_w1, 104, .inl fa_w1)), (a_t1, .inl (ca_t1, 6, .inl fa_t1)), (a_t2, .inl (ca_t2, 6, .inl fa_t2)), (a_tp, .inr (10, [.ref a_tb, .int tt, .int ta, .int tj, .int tf, .int ts, .int te, .int to, .int tg, .int tx, .int ty])), (a_tb, .inl (ca_tb, 700, .inl fa_tb)), (a_dr, .inr (7, [.ref a_d1, .ref a_d2, .ref a_d3, .int rl, .int rc, .int rk])), (a_d1, .inl (ca_d1, 96, .inl fa_d1)), (a_d2, .inl (ca_d2, 96, .inl fa_d2)), (a_d3, .inl (ca_d3, 7, .inl fa_d3))])) (va_Qi (fun (r : Int32) (_ : Unit) => ((0 : Int) ≤ (r).toInt ∧ (r).toInt ≤ (1 : Int))) (fun (_ : Unit) (t : State) => ∃ (n_h0_waits : Int32), ∃ (n_h0_open : Int32), ∃ (n_h0_wantsPart : Int32), ∃ (g_a_w1 : Nat → Int32), ∃ (g_a_t1 : Nat → Int32), ∃ (g_a_t2 : Nat → Int32), ∃ (n_a_tp_at : Int32), ∃ (n_a_tp_start : Int32), ∃ (n_a_tp_end : Int32), ∃ (n_a_tp_sort : Int32), ∃ (n_a_tp_sign : Int32), ∃ (n_a_tp_faultSort : Int32), ∃ (n_a_tp_faultPlace : Int32), ∃ (n_a_dr_length : Int32), ∃ (n_a_dr_knots : Int32), ∃ (n_a_dr_causes : Int32), ∃ (g_a_d1 : Nat → Int32), ∃ (g_a_d2 : Nat → Int32), ∃ (g_a_d3 : Nat → Int32), ((0 : Int) ≤ (n_h0_waits).toInt ∧ (n_h0_waits).toInt ≤ (104 : Int)) ∧ ((0 : Int) ≤ (n_h0_open).toInt ∧ (n_h0_open).toInt ≤ (8 : Int)) ∧ ((0 : Int) ≤ (n_h0_wantsPart).toInt ∧ (n_h0_wantsPart).toInt ≤ (1 : Int)) ∧ ((0 : Int) ≤ (n_a_tp_at).toInt ∧ (n_a_tp_at).toInt ≤ (700 : Int)) ∧ ((0 : Int) ≤ (n_a_tp_start).toInt ∧ (n_a_tp_start).toInt ≤ (700 : Int)) ∧ ((0 : Int) ≤ (n_a_tp_end).toInt ∧ (n_a_tp_end).toInt ≤ (700 : Int)) ∧ ((0 : Int) ≤ (n_a_dr_length).toInt ∧ (n_a_dr_length).toInt ≤ (96 : Int)) ∧ ((0 : Int) ≤ (n_a_dr_knots).toInt ∧ (n_a_dr_knots).toInt ≤ (96 : Int)) ∧ ((0 : Int) ≤ (n_a_dr_causes).toInt ∧ (n_a_dr_causes).toInt ≤ (6 : Int)) ∧ (∀ j : Nat, ((0 : Int) ≤ (g_a_d3 j).toInt ∧ (g_a_d3 j).toInt ≤ (96 : Int))) ∧ va_P (dC, dI) vwCl [(h0, .inr (8, [.ref a_tp, .ref a_t1, .ref a_t2, .ref a_w1, .int n_h0_waits, .int n_h0_open, .int n_h0_wantsPart, .ref a_dr, h0_8])), (a_w1, .inl (ca_w1, 104, .inl g_a_w1)), (a_t1, .inl (ca_t1, 6, .inl g_a_t1)), (a_t2, .inl (ca_t2, 6, .inl g_a_t2)), (a_tp, .inr (10, [.ref a_tb, .int tt, .int n_a_tp_at, .int tj, .int tf, .int n_a_tp_start, .int n_a_tp_end, .int n_a_tp_sort, .int n_a_tp_sign, .int n_a_tp_faultSort, .int n_a_tp_faultPlace])), (a_tb, .inl (ca_tb, 700, .inl fa_tb)), (a_dr, .inr (7, [.ref a_d1, .ref a_d2, .ref a_d3, .int n_a_dr_length, .int n_a_dr_causes, .int n_a_dr_knots])), (a_d1, .inl (ca_d1, 96, .inl g_a_d1)), (a_d2, .inl (ca_d2, 96, .inl g_a_d2)), (a_d3, .inl (ca_d3, 7, .inl g_a_d3))] t.heap ∧ va_K (dC, dI) vwCl [] t ∧ va_D (va_A [(h0, .inr (8, [.ref a_tp, .ref a_t1, .ref a_t2, .ref a_w1, .int uw, .int uo, .int up, .ref a_dr, h0_8])), (a_w1, .inl (ca_w1, 104, .inl fa_w1)), (a_t1, .inl (ca_t1, 6, .inl fa_t1)), (a_t2, .inl (ca_t2, 6, .inl fa_t2)), (a_tp, .inr (10, [.ref a_tb, .int tt, .int ta, .int tj, .int tf, .int ts, .int te, .int to, .int tg, .int tx, .int ty])), (a_tb, .inl (ca_tb, 700, .inl fa_tb)), (a_dr, .inr (7, [.ref a_d1, .ref a_d2, .ref a_d3, .int rl, .int rc, .int rk])), (a_d1, .inl (ca_d1, 96, .inl fa_d1)), (a_d2, .inl (ca_d2, 96, .inl fa_d2)), (a_d3, .inl (ca_d3, 7, .inl fa_d3))] sz) [(h0, .inr (8, [.ref a_tp, .ref a_t1, .ref a_t2, .ref a_w1, .int n_h0_waits, .int n_h0_open, .int n_h0_wantsPart, .ref a_dr, h0_8])), (a_w1, .inl (ca_w1, 104, .inl g_a_w1)), (a_t1, .inl (ca_t1, 6, .inl g_a_t1)), (a_t2, .inl (ca_t2, 6, .inl g_a_t2)), (a_tp, .inr (10, [.ref a_tb, .int tt, .int n_a_tp_at, .int tj, .int tf, .int n_a_tp_start, .int n_a_tp_end, .int n_a_tp_sort, .int n_a_tp_sign, .int n_a_tp_faultSort, .int n_a_tp_faultPlace])), (a_tb, .inl (ca_tb, 700, .inl fa_tb)), (a_dr, .inr (7, [.ref a_d1, .ref a_d2, .ref a_d3, .int n_a_dr_length, .int n_a_dr_causes, .int n_a_dr_knots])), (a_d1, .inl (ca_d1, 96, .inl g_a_d1)), (a_d2, .inl (ca_d2, 96, .inl g_a_d2)), (a_d3, .inl (ca_d3, 7, .inl g_a_d3))]) (va_A [(h0, .inr (8, [.ref a_tp, .ref a_t1, .ref a_t2, .ref a_w1, .int uw, .int uo, .int up, .ref a_dr, h0_8])), (a_w1, .inl (ca_w1, 104, .inl fa_w1)), (a_t1, .inl (ca_t1, 6, .inl fa_t1)), (a_t2, .inl (ca_t2, 6, .inl fa_t2)), (a_tp, .inr (10, [.ref a_tb, .int tt, .int ta, .int tj, .int tf, .int ts, .int te, .int to, .int tg, .int tx, .int ty])), (a_tb, .inl (ca_tb, 700, .inl fa_tb)), (a_dr, .inr (7, [.ref a_d1, .ref a_d2, .ref a_d3, .int rl, .int rc, .int rk])), (a_d1, .inl (ca_d1, 96, .inl fa_d1)), (a_d2, .inl (ca_d2, 96, .inl fa_d2)), (a_d3, .inl (ca_d3, 7, .inl fa_d3))] sz)) 0 0 (va_A [(h0, .inr (8, [.ref a_tp, .ref a_t1, .ref a_t2, .ref a_w1, .int uw, .int uo, .int up, .ref a_dr, h0_8])), (a_w1, .inl (ca_w1, 104, .inl fa_w1)), (a_t1, .inl (ca_t1, 6, .inl fa_t1)), (a_t2, .inl (ca_t2, 6, .inl fa_t2)), (a_tp, .inr (10, [.ref a_tb, .int tt, .int ta, .int tj, .int tf, .int ts, .int te, .int to, .int tg, .int tx, .int ty])), (a_tb, .inl (ca_tb, 700, .inl fa_tb)), (a_dr, .inr (7, [.ref a_d1, .ref a_d2, .ref a_d3, .int rl, .int rc, .int rk])), (a_d1, .inl (ca_d1, 96, .inl fa_d1)), (a_d2, .inl (ca_d2, 96, .inl fa_d2)), (a_d3, .inl (ca_d3, 7, .inl fa_d3))] sz) := by
  refine Met.ofW (cc := cX8_readCause) (maxL := 1) (ret := (some .boolean)) (by decide) rfl ?_
  intro p e s m args below meth c s₁ B hml hv
  obtain ⟨rfl, ⟨hsz, hP, hK, hD0⟩, hST⟩ := hv
  have hx := B.exec
  have hb := B.bytes
  have hr := B.returns
  have hts := atoms_spec (ws := u_s_X8_readCause) B.pre
  have hown : s.vm.findClass RX8 = some m.cls := findClass_of_methodNamed B.named
  have hlocks := B.notSynchronized
  subst hsz
  have hD := hD0.self (sz := s.heap.size)
  generalize hAe : va_A [(h0, .inr (8, [.ref a_tp, .ref a_t1, .ref a_t2, .ref a_w1, .int uw, .int uo, .int up, .ref a_dr, h0_8])), (a_w1, .inl (ca_w1, 104, .inl fa_w1)), (a_t1, .inl (ca_t1, 6, .inl fa_t1)), (a_t2, .inl (ca_t2, 6, .inl fa_t2)), (a_tp, .inr (10, [.ref a_tb, .int tt, .int ta, .int tj, .int tf, .int ts, .int te, .int to, .int tg, .int tx, .int ty])), (a_tb, .inl (ca_tb, 700, .inl fa_tb)), (a_dr, .inr (7, [.ref a_d1, .ref a_d2, .ref a_d3, .int rl, .int rc, .int rk])), (a_d1, .inl (ca_d1, 96, .inl fa_d1)), (a_d2, .inl (ca_d2, 96, .inl fa_d2)), (a_d3, .inl (ca_d3, 7, .inl fa_d3))] s.heap.size = A at hD hST ⊢
  have hA : ∀ q : Nat, s.heap.size ≤ q → A q := fun q h => by rw [← hAe]; exact Or.inr h
  have hS : va_S A s.heap s.heap [] := va_S.rf
  have hP : va_P (dC, dI) vwCl [(h0, .inr (8, [.ref a_tp, .ref a_t1, .ref a_t2, .ref a_w1, .int uw, .int uo, .int up, .ref a_dr, h0_8])), (a_w1, .inl (ca_w1, 104, .inl fa_w1)), (a_t1, .inl (ca_t1, 6, .inl fa_t1)), (a_t2, .inl (ca_t2, 6, .inl fa_t2)), (a_tp, .inr (10, [.ref a_tb, .int tt, .int ta, .int tj, .int tf, .int ts, .int te, .int to, .int tg, .int tx, .int ty])), (a_tb, .inl (ca_tb, 700, .inl fa_tb)), (a_dr, .inr (7, [.ref a_d1, .ref a_d2, .ref a_d3, .int rl, .int rc, .int rk])), (a_d1, .inl (ca_d1, 96, .inl fa_d1)), (a_d2, .inl (ca_d2, 96, .inl fa_d2)), (a_d3, .inl (ca_d3, 7, .inl fa_d3))] s.heap := hP
  have w__fieldLink_RX8_42_ShellHeap_RulesReader_tape_LShellHeap_Tape_ := hts (.fieldLink RX8 42 "ShellHeap$RulesReader" "tape" "LShellHeap$Tape;") (z_mc (z_ml z_m0))
  have hiX8 := show ∀ w ∈ u_ws RX8 TX8 9, w ∈ u_s_X8_readCause from fun w h => z_mc (z_mr (z_ml h))
  have w__fieldLink_RX8_35_ShellHeap_RulesReader_draft_LShellHeap_Rules_ := hts (.fieldLink RX8 35 "ShellHeap$RulesReader" "draft" "LShellHeap$Rules;") (z_mc (z_ml z_m5))
  have w__fieldLink_RX8_71_ShellHeap_Rules_causes_I_ := hts (.fieldLink RX8 71 "ShellHeap$Rules" "causes" "I") (z_mc (z_ml z_m6))
  have hiX7 := show ∀ w ∈ u_ws RX7 TX7 6, w ∈ u_s_X8_readCause from fun w h => z_mc (z_mr (z_mr (z_ml h)))
  have w__fieldLink_RX8_80_ShellHeap_Tape_sign_I_ := hts (.fieldLink RX8 80 "ShellHeap$Tape" "sign" "I") (z_mc (z_ml z_m14))
  have hiX10 := show ∀ w ∈ u_ws RX10 TX10 11, w ∈ u_s_X8_readCause from fun w h => z_mc (z_mr (z_mr (z_mr (z_ml h))))
  have hl := lv_entry ([.ref h0]) (n := 1) (Nat.le_of_ble_eq_true rfl)
  rw [lg_entry_eq]
  generalize (lg_sl ([.ref h0]) ++ List.replicate (1 - (lg_sl ([.ref h0])).length) Slot.unset).toArray = ls at hl ⊢
  have hl : lv_has ls 1 [(0, .ref h0)] := hl
  refine lv_aload_n hx hb dX8_readCause_0 rfl (lv_at hl 0 rfl) ?_
  refine va_get (D := (dC, dI)) (ci := 8) (v := .ref a_tp) (C := RX8) (T := TX8) (N := 9) hx hb hts hiX8 hown hK hP 0 rfl rfl 0 (by decide) w__fieldLink_RX8_42_ShellHeap_RulesReader_tape_LShellHeap_Tape_ (fun _ h9 => h9) rfl dX8_readCause_1 ?_
  refine va_ldcS hx hb hown hST.2.2.2.2.1 dX8_readCause_4 ?_
  obtain ⟨hPc, hDc⟩ := z_sub2 (ws' := [(a_tp, .inr (10, [.ref a_tb, .int tt, .int ta, .int tj, .int tf, .int ts, .int te, .int to, .int tg, .int tx, .int ty])), (a_tb, .inl (ca_tb, 700, .inl fa_tb))]) hP hD [4, 5] (by decide) rfl
  have hKc := hK.sub (tys' := [(ca_tb, .int)]) [3] rfl
  have hFc := va_free (ws := []) (wc := []) (z_D0 _) hS hA [] rfl
  refine va_calli (va_runV (As := [.ref (sd 1)]) (rest := []) ⟨hx, hb, hml, hown, hts⟩ (s_X10_wordIn l dC dI s.heap.size sd sv sf 1 a_tp a_tb tt (.int ta) (.int tj) (.int tf) ts te to (.int tg) (.int tx) (.int ty) ca_tb fa_tb hB_tt hB_ts hB_te hI_a_tb (by decide)) (cwV 1 hts gw_s_X8_readCause_s_X10_wordIn_63 rfl rfl rfl (by decide +kernel) ⟨Nat.le_of_ble_eq_true rfl, Nat.le_of_ble_eq_true rfl⟩) ⟨z_blindS, va_recv hKc hPc (ci := 10) (q0 := 0) rfl rfl, z_preS hPc hKc hDc ((hST.kept hS.2.1).narrow hFc)⟩ rfl rfl hl.1 rfl (lv_room (Nat.le_of_ble_eq_true rfl)) dX8_readCause_6 ⟨Nat.le_of_ble_eq_true rfl, Nat.le_of_ble_eq_true rfl⟩) hS (fun q _ h => hFc q h) hFc (fun r_2 u t H_1 locs ht hvm hw_3 hB hz1 hk1 hS => ?_)
  replace hP := z_pure hP hk1
  clear hPc hDc hKc
  refine lv_iconst (v := (-1)) hx hb dX8_readCause_9 (by decide) ?_
  refine lv_icmp_ne (tgt := 22) hx hb dX8_readCause_10 (by decide) (fun c_4 => ?_) (fun c_4 => ?_)
  · have k_5 : (r_2).toInt ≠ (-1 : Int) := z_ne c_4
    refine lv_aload_n hx hb dX8_readCause_22 rfl (lv_at hl 0 rfl) ?_
    refine va_get (D := (dC, dI)) (ci := 8) (v := .ref a_dr) (C := RX8) (T := TX8) (N := 9) hx hb hts hiX8 hown hK hP 0 rfl rfl 7 (by decide) w__fieldLink_RX8_35_ShellHeap_RulesReader_draft_LShellHeap_Rules_ (fun _ h9 => h9) rfl dX8_readCause_23 ?_
    refine va_get (D := (dC, dI)) (ci := 7) (v := .int rc) (C := RX7) (T := TX7) (N := 6) hx hb hts hiX7 hown hK hP 6 rfl rfl 4 (by decide) w__fieldLink_RX8_71_ShellHeap_Rules_causes_I_ (fun _ h9 => h9) rfl dX8_readCause_26 ?_
    refine lv_bipush (v := 6) hx hb dX8_readCause_29 (by decide) ?_
    refine lv_icmp_lt (tgt := 43) hx hb dX8_readCause_31 (by decide) (fun c_6 => ?_) (fun c_6 => ?_)
    · have k_7 : (rc).toInt < (6 : Int) := z_lt c_6
      refine lv_aload_n hx hb dX8_readCause_43 rfl (lv_at hl 0 rfl) ?_
      refine va_get (D := (dC, dI)) (ci := 8) (v := .ref a_tp) (C := RX8) (T := TX8) (N := 9) hx hb hts hiX8 hown hK hP 0 rfl rfl 0 (by decide) w__fieldLink_RX8_42_ShellHeap_RulesReader_tape_LShellHeap_Tape_ (fun _ h9 => h9) rfl dX8_readCause_44 ?_
      obtain ⟨hPc, hDc, hFc⟩ := z_sub3 (ws' := [(a_tp, .inr (10, [.ref a_tb, .int tt, .int ta, .int tj, .int tf, .int ts, .int te, .int to, .int tg, .int tx, .int ty])), (a_tb, .inl (ca_tb, 700, .inl fa_tb))]) hP hD hS hA [4, 5] (by decide) rfl
      have hKc := hK.sub (tys' := [(ca_tb, .int)]) [3] rfl
      refine va_callv (va_runV (As := []) (rest := []) ⟨hx, hb, hml, hown, hts⟩ (s_X10_next l dC dI H_1.size a_tp a_tb tt ta tj tf ts te to tg tx ty ca_tb fa_tb hB_tt hB_ta hB_tf hB_ts hB_te hI_a_tb) (cwV 0 hts gw_s_X8_readCause_s_X10_next_74 rfl rfl rfl (by decide +kernel) ⟨Nat.le_of_ble_eq_true rfl, Nat.le_of_ble_eq_true rfl⟩) ⟨z_blind, va_recv hKc hPc (ci := 10) (q0 := 0) rfl rfl, z_pre hPc hKc hDc⟩ rfl rfl hl.1 rfl (lv_room (Nat.le_of_ble_eq_true rfl)) dX8_readCause_47 ⟨Nat.le_of_ble_eq_true rfl, Nat.le_of_ble_eq_true rfl⟩) hS (fun q _ h => hFc q h) hFc (fun u t H_8 locs ht hvm hw_10 hB hz1 hk1 hS => ?_)
      obtain ⟨n_h0_at_11, n_h0_start_12, n_h0_end_13, n_h0_sort_14, n_h0_sign_15, hp_16, hp_17, hp_18, hP1, hK1, hD1⟩ := hB
      rw [ht] at hP1
      have hK1 := va_K.moved hvm.symm hK1
      obtain ⟨hP, hD⟩ := z_ap_8 (va_join (wr := [(h0, .inr (8, [.ref a_tp, .ref a_t1, .ref a_t2, .ref a_w1, .int uw, .int uo, .int up, .ref a_dr, h0_8])), (a_w1, .inl (ca_w1, 104, .inl fa_w1)), (a_t1, .inl (ca_t1, 6, .inl fa_t1)), (a_t2, .inl (ca_t2, 6, .inl fa_t2)), (a_dr, .inr (7, [.ref a_d1, .ref a_d2, .ref a_d3, .int rl, .int rc, .int rk])), (a_d1, .inl (ca_d1, 96, .inl fa_d1)), (a_d2, .inl (ca_d2, 96, .inl fa_d2)), (a_d3, .inl (ca_d3, 7, .inl fa_d3))]) hP hD [4, 5] [0, 1, 2, 3, 6, 7, 8, 9] rfl rfl (by decide) (by decide) hk1 hFc hP1 hD1)
      clear hPc hDc hKc
      refine lv_aload_n hx hb dX8_readCause_50 rfl (lv_at hl 0 rfl) ?_
      obtain ⟨hPc, hDc, hFc⟩ := z_sub3 (ws' := [(h0, .inr (8, [.ref a_tp, .ref a_t1, .ref a_t2, .ref a_w1, .int uw, .int uo, .int up, .ref a_dr, h0_8])), (a_t1, .inl (ca_t1, 6, .inl fa_t1)), (a_t2, .inl (ca_t2, 6, .inl fa_t2)), (a_tp, .inr (10, [.ref a_tb, .int tt, .int n_h0_at_11, .int tj, .int tf, .int n_h0_start_12, .int n_h0_end_13, .int n_h0_sort_14, .int n_h0_sign_15, .int tx, .int ty])), (a_tb, .inl (ca_tb, 700, .inl fa_tb)), (a_dr, .inr (7, [.ref a_d1, .ref a_d2, .ref a_d3, .int rl, .int rc, .int rk]))]) hP hD hS hA [0, 2, 3, 8, 9, 4] (by decide) rfl
      have hKc := hK.sub (tys' := [(ca_t1, .int), (ca_t2, .int), (ca_tb, .int)]) [1, 2, 3] rfl
      refine va_calli (va_runV (As := []) (rest := []) ⟨hx, hb, hml, hown, hts⟩ (s_X8_readTitle l dC dI H_8.size sd sv sf h0 a_tp a_t1 a_t2 a_w1 uw uo up a_dr h0_8 ca_t1 fa_t1 ca_t2 fa_t2 a_tb tt n_h0_at_11 tj tf n_h0_start_12 n_h0_end_13 n_h0_sort_14 n_h0_sign_15 tx ty ca_tb fa_tb a_d1 a_d2 a_d3 rl rc rk hB_tt hp_16 hB_tf hp_17 hp_18 hB_uw hB_uo hB_up hB_rl (by first | omega | decide) hB_rk hI_a_tb) (cwV 0 hts gw_s_X8_readCause_s_X8_readTitle_77 rfl rfl rfl (by decide +kernel) ⟨Nat.le_of_ble_eq_true rfl, Nat.le_of_ble_eq_true rfl⟩) ⟨z_blindS, va_recv hKc hPc (ci := 8) (q0 := 0) rfl rfl, z_preS hPc hKc hDc ((hST.kept hS.2.1).narrow hFc)⟩ rfl rfl hl.1 rfl (lv_room (Nat.le_of_ble_eq_true rfl)) dX8_readCause_51 ⟨Nat.le_of_ble_eq_true rfl, Nat.le_of_ble_eq_true rfl⟩) hS (fun q _ h => hFc q h) hFc (fun r_20 u t H_19 locs ht hvm hw_21 hB hz1 hk1 hS => ?_)
      obtain ⟨g_a_t1_22, g_a_t2_23, n_a_tp_at_24, n_a_tp_start_25, n_a_tp_end_26, n_a_tp_sort_27, n_a_tp_sign_28, n_a_tp_faultSort_29, n_a_tp_faultPlace_30, hp_31, hp_32, hp_33, hP1, hK1, hD1⟩ := hB
      rw [ht] at hP1
      have hK1 := va_K.moved hvm.symm hK1
      obtain ⟨hP, hD⟩ := z_ap_4 (va_join (wr := [(a_w1, .inl (ca_w1, 104, .inl fa_w1)), (a_d1, .inl (ca_d1, 96, .inl fa_d1)), (a_d2, .inl (ca_d2, 96, .inl fa_d2)), (a_d3, .inl (ca_d3, 7, .inl fa_d3))]) hP hD [0, 2, 3, 8, 9, 4] [1, 5, 6, 7] rfl rfl (by decide) (by decide) hk1 hFc hP1 hD1)
      clear hPc hDc hKc
      refine lv_if_ne (tgt := 59) hx hb dX8_readCause_54 (by decide) (fun c_34 => ?_) (fun c_34 => ?_)
      · have k_35 : (r_20).toInt ≠ (0 : Int) := z_ne c_34
        obtain rfl : r_20 = 1 := z_eq' (show (r_20).toInt = (1 : Int) by omega)
        refine lv_aload_n hx hb dX8_readCause_59 rfl (lv_at hl 0 rfl) ?_
        refine va_get (D := (dC, dI)) (ci := 8) (v := .ref a_tp) (C := RX8) (T := TX8) (N := 9) hx hb hts hiX8 hown hK hP 4 rfl rfl 0 (by decide) w__fieldLink_RX8_42_ShellHeap_RulesReader_tape_LShellHeap_Tape_ (fun _ h9 => h9) rfl dX8_readCause_60 ?_
        refine va_get (D := (dC, dI)) (ci := 10) (v := .int n_a_tp_sign_28) (C := RX10) (T := TX10) (N := 11) hx hb hts hiX10 hown hK hP 7 rfl rfl 8 (by decide) w__fieldLink_RX8_80_ShellHeap_Tape_sign_I_ (fun _ h9 => h9) rfl dX8_readCause_63 ?_
        refine lv_bipush (v := 58) hx hb dX8_readCause_66 (by decide) ?_
        refine lv_icmp_eq (tgt := 80) hx hb dX8_readCause_68 (by decide) (fun c_37 => ?_) (fun c_37 => ?_)
        · have k_38 : (n_a_tp_sign_28).toInt = (58 : Int) := z_eq c_37
          obtain rfl : n_a_tp_sign_28 = 58 := z_eq' (show (n_a_tp_sign_28).toInt = (58 : Int) by omega)
          refine lv_aload_n hx hb dX8_readCause_80 rfl (lv_at hl 0 rfl) ?_
          refine va_get (D := (dC, dI)) (ci := 8) (v := .ref a_tp) (C := RX8) (T := TX8) (N := 9) hx hb hts hiX8 hown hK hP 4 rfl rfl 0 (by decide) w__fieldLink_RX8_42_ShellHeap_RulesReader_tape_LShellHeap_Tape_ (fun _ h9 => h9) rfl dX8_readCause_81 ?_
          obtain ⟨hPc, hDc, hFc⟩ := z_sub3 (ws' := [(a_tp, .inr (10, [.ref a_tb, .int tt, .int n_a_tp_at_24, .int tj, .int tf, .int n_a_tp_start_25, .int n_a_tp_end_26, .int n_a_tp_sort_27, .int 58, .int n_a_tp_faultSort_29, .int n_a_tp_faultPlace_30])), (a_tb, .inl (ca_tb, 700, .inl fa_tb))]) hP hD hS hA [7, 8] (by decide) rfl
          have hKc := hK.sub (tys' := [(ca_tb, .int)]) [3] rfl
          refine va_callv (va_runV (As := []) (rest := []) ⟨hx, hb, hml, hown, hts⟩ (s_X10_next l dC dI H_19.size a_tp a_tb tt n_a_tp_at_24 tj tf n_a_tp_start_25 n_a_tp_end_26 n_a_tp_sort_27 58 n_a_tp_faultSort_29 n_a_tp_faultPlace_30 ca_tb fa_tb hB_tt hp_31 hB_tf hp_32 hp_33 hI_a_tb) (cwV 0 hts gw_s_X8_readCause_s_X10_next_74 rfl rfl rfl (by decide +kernel) ⟨Nat.le_of_ble_eq_true rfl, Nat.le_of_ble_eq_true rfl⟩) ⟨z_blind, va_recv hKc hPc (ci := 10) (q0 := 0) rfl rfl, z_pre hPc hKc hDc⟩ rfl rfl hl.1 rfl (lv_room (Nat.le_of_ble_eq_true rfl)) dX8_readCause_84 ⟨Nat.le_of_ble_eq_true rfl, Nat.le_of_ble_eq_true rfl⟩) hS (fun q _ h => hFc q h) hFc (fun u t H_40 locs ht hvm hw_42 hB hz1 hk1 hS => ?_)
          obtain ⟨n_h0_at_43, n_h0_start_44, n_h0_end_45, n_h0_sort_46, n_h0_sign_47, hp_48, hp_49, hp_50, hP1, hK1, hD1⟩ := hB
          rw [ht] at hP1
          have hK1 := va_K.moved hvm.symm hK1
          obtain ⟨hP, hD⟩ := z_ap_8 (va_join (wr := [(a_w1, .inl (ca_w1, 104, .inl fa_w1)), (a_d1, .inl (ca_d1, 96, .inl fa_d1)), (a_d2, .inl (ca_d2, 96, .inl fa_d2)), (a_d3, .inl (ca_d3, 7, .inl fa_d3)), (h0, .inr (8, [.ref a_tp, .ref a_t1, .ref a_t2, .ref a_w1, .int uw, .int uo, .int up, .ref a_dr, h0_8])), (a_t1, .inl (ca_t1, 6, .inl g_a_t1_22)), (a_t2, .inl (ca_t2, 6, .inl g_a_t2_23)), (a_dr, .inr (7, [.ref a_d1, .ref a_d2, .ref a_d3, .int rl, .int rc, .int rk]))]) hP hD [7, 8] [0, 1, 2, 3, 4, 5, 6, 9] rfl rfl (by decide) (by decide) hk1 hFc hP1 hD1)
          clear hPc hDc hKc
          refine lv_aload_n hx hb dX8_readCause_87 rfl (lv_at hl 0 rfl) ?_
          obtain ⟨hPc, hDc, hFc⟩ := z_sub3 (ws' := [(h0, .inr (8, [.ref a_tp, .ref a_t1, .ref a_t2, .ref a_w1, .int uw, .int uo, .int up, .ref a_dr, h0_8])), (a_w1, .inl (ca_w1, 104, .inl fa_w1)), (a_tp, .inr (10, [.ref a_tb, .int tt, .int n_h0_at_43, .int tj, .int tf, .int n_h0_start_44, .int n_h0_end_45, .int n_h0_sort_46, .int n_h0_sign_47, .int n_a_tp_faultSort_29, .int n_a_tp_faultPlace_30])), (a_tb, .inl (ca_tb, 700, .inl fa_tb)), (a_dr, .inr (7, [.ref a_d1, .ref a_d2, .ref a_d3, .int rl, .int rc, .int rk])), (a_d1, .inl (ca_d1, 96, .inl fa_d1)), (a_d2, .inl (ca_d2, 96, .inl fa_d2)), (a_d3, .inl (ca_d3, 7, .inl fa_d3))]) hP hD hS hA [4, 0, 8, 9, 7, 1, 2, 3] (by decide) rfl
          have hKc := hK.sub (tys' := [(ca_w1, .int), (ca_tb, .int), (ca_d1, .int), (ca_d2, .int), (ca_d3, .int)]) [0, 3, 4, 5, 6] rfl
          refine va_calli (va_runV (As := []) (rest := []) ⟨hx, hb, hml, hown, hts⟩ (s_X8_readBody l dC dI H_40.size sd sv sf h0 a_tp a_t1 a_t2 a_w1 uw uo up a_dr h0_8 ca_w1 fa_w1 a_tb tt n_h0_at_43 tj tf n_h0_start_44 n_h0_end_45 n_h0_sort_46 n_h0_sign_47 n_a_tp_faultSort_29 n_a_tp_faultPlace_30 ca_tb fa_tb a_d1 a_d2 a_d3 rl rc rk ca_d1 fa_d1 ca_d2 fa_d2 ca_d3 fa_d3 hB_tt hp_48 hB_tf hp_49 hp_50 hB_uw hB_uo hB_up hB_rl hB_rc hB_rk hI_a_tb hI_a_d3) (cwV 0 hts gw_s_X8_readCause_s_X8_readBody_83 rfl rfl rfl (by decide +kernel) ⟨Nat.le_of_ble_eq_true rfl, Nat.le_of_ble_eq_true rfl⟩) ⟨z_blindS, va_recv hKc hPc (ci := 8) (q0 := 0) rfl rfl, z_preS hPc hKc hDc ((hST.kept hS.2.1).narrow hFc)⟩ rfl rfl hl.1 rfl (lv_room (Nat.le_of_ble_eq_true rfl)) dX8_readCause_88 ⟨Nat.le_of_ble_eq_true rfl, Nat.le_of_ble_eq_true rfl⟩) hS (fun q _ h => hFc q h) hFc (fun r_52 u t H_51 locs ht hvm hw_53 hB hz1 hk1 hS => ?_)
          obtain ⟨n_h0_waits_54, n_h0_open_55, n_h0_wantsPart_56, g_a_w1_57, n_a_tp_at_58, n_a_tp_start_59, n_a_tp_end_60, n_a_tp_sort_61, n_a_tp_sign_62, n_a_tp_faultSort_63, n_a_tp_faultPlace_64, n_a_dr_length_65, n_a_dr_knots_66, g_a_d1_67, g_a_d2_68, hp_69, hp_70, hp_71, hp_72, hp_73, hp_74, hp_75, hp_76, hP1, hK1, hD1⟩ := hB
          rw [ht] at hP1
          have hK1 := va_K.moved hvm.symm hK1
          obtain ⟨hP, hD⟩ := z_ap_2 (va_join (wr := [(a_t1, .inl (ca_t1, 6, .inl g_a_t1_22)), (a_t2, .inl (ca_t2, 6, .inl g_a_t2_23))]) hP hD [4, 0, 8, 9, 7, 1, 2, 3] [5, 6] rfl rfl (by decide) (by decide) hk1 hFc hP1 hD1)
          clear hPc hDc hKc
          refine lv_if_ne (tgt := 96) hx hb dX8_readCause_91 (by decide) (fun c_77 => ?_) (fun c_77 => ?_)
          · have k_78 : (r_52).toInt ≠ (0 : Int) := z_ne c_77
            obtain rfl : r_52 = 1 := z_eq' (show (r_52).toInt = (1 : Int) by omega)
            refine lv_aload_n hx hb dX8_readCause_96 rfl (lv_at hl 0 rfl) ?_
            refine va_get (D := (dC, dI)) (ci := 8) (v := .ref a_dr) (C := RX8) (T := TX8) (N := 9) hx hb hts hiX8 hown hK hP 2 rfl rfl 7 (by decide) w__fieldLink_RX8_35_ShellHeap_RulesReader_draft_LShellHeap_Rules_ (fun _ h9 => h9) rfl dX8_readCause_97 ?_
            obtain ⟨hPc, hDc, hFc⟩ := z_sub3 (ws' := [(a_dr, .inr (7, [.ref a_d1, .ref a_d2, .ref a_d3, .int n_a_dr_length_65, .int rc, .int n_a_dr_knots_66])), (a_d3, .inl (ca_d3, 7, .inl fa_d3))]) hP hD hS hA [6, 9] (by decide) rfl
            have hKc := hK.sub (tys' := [(ca_d3, .int)]) [6] rfl
            refine va_callv (va_runV (As := []) (rest := []) ⟨hx, hb, hml, hown, hts⟩ (s_X7_endCause l dC dI H_51.size a_dr (.ref a_d1) (.ref a_d2) a_d3 n_a_dr_length_65 rc (.int n_a_dr_knots_66) ca_d3 fa_d3 hp_75 hB_rc hI_a_d3) (cwV 0 hts gw_s_X8_readCause_s_X7_endCause_86 rfl rfl rfl (by decide +kernel) ⟨Nat.le_of_ble_eq_true rfl, Nat.le_of_ble_eq_true rfl⟩) ⟨z_blind, va_recv hKc hPc (ci := 7) (q0 := 0) rfl rfl, z_pre hPc hKc hDc⟩ rfl rfl hl.1 rfl (lv_room (Nat.le_of_ble_eq_true rfl)) dX8_readCause_100 ⟨Nat.le_of_ble_eq_true rfl, Nat.le_of_ble_eq_true rfl⟩) hS (fun q _ h => hFc q h) hFc (fun u t H_80 locs ht hvm hw_82 hB hz1 hk1 hS => ?_)
            obtain ⟨n_h0_causes_83, g_h1_84, hp_85, hp_86, hP1, hK1, hD1⟩ := hB
            rw [ht] at hP1
            have hK1 := va_K.moved hvm.symm hK1
            obtain ⟨hP, hD⟩ := z_ap_8 (va_join (wr := [(a_t1, .inl (ca_t1, 6, .inl g_a_t1_22)), (a_t2, .inl (ca_t2, 6, .inl g_a_t2_23)), (h0, .inr (8, [.ref a_tp, .ref a_t1, .ref a_t2, .ref a_w1, .int n_h0_waits_54, .int n_h0_open_55, .int n_h0_wantsPart_56, .ref a_dr, h0_8])), (a_w1, .inl (ca_w1, 104, .inl g_a_w1_57)), (a_tp, .inr (10, [.ref a_tb, .int tt, .int n_a_tp_at_58, .int tj, .int tf, .int n_a_tp_start_59, .int n_a_tp_end_60, .int n_a_tp_sort_61, .int n_a_tp_sign_62, .int n_a_tp_faultSort_63, .int n_a_tp_faultPlace_64])), (a_tb, .inl (ca_tb, 700, .inl fa_tb)), (a_d1, .inl (ca_d1, 96, .inl g_a_d1_67)), (a_d2, .inl (ca_d2, 96, .inl g_a_d2_68))]) hP hD [6, 9] [0, 1, 2, 3, 4, 5, 7, 8] rfl rfl (by decide) (by decide) hk1 hFc hP1 hD1)
            clear hPc hDc hKc
            refine lv_iconst (v := 1) hx hb dX8_readCause_103 (by decide) ?_
            obtain ⟨hP9, hD9⟩ := z_sub2 (ws' := [(h0, .inr (8, [.ref a_tp, .ref a_t1, .ref a_t2, .ref a_w1, .int n_h0_waits_54, .int n_h0_open_55, .int n_h0_wantsPart_56, .ref a_dr, h0_8])), (a_w1, .inl (ca_w1, 104, .inl g_a_w1_57)), (a_t1, .inl (ca_t1, 6, .inl g_a_t1_22)), (a_t2, .inl (ca_t2, 6, .inl g_a_t2_23)), (a_tp, .inr (10, [.ref a_tb, .int tt, .int n_a_tp_at_58, .int tj, .int tf, .int n_a_tp_start_59, .int n_a_tp_end_60, .int n_a_tp_sort_61, .int n_a_tp_sign_62, .int n_a_tp_faultSort_63, .int n_a_tp_faultPlace_64])), (a_tb, .inl (ca_tb, 700, .inl fa_tb)), (a_dr, .inr (7, [.ref a_d1, .ref a_d2, .ref a_d3, .int n_a_dr_length_65, .int n_h0_causes_83, .int n_a_dr_knots_66])), (a_d1, .inl (ca_d1, 96, .inl g_a_d1_67)), (a_d2, .inl (ca_d2, 96, .inl g_a_d2_68)), (a_d3, .inl (ca_d3, 7, .inl g_h1_84))]) hP hD [2, 3, 0, 1, 4, 5, 8, 6, 7, 9] (by decide) rfl
            have hK9 := hK.sub (tys' := []) [] rfl
            refine W.widen (k := 0) (n := 0) (Nat.le_of_ble_eq_true rfl) (Nat.le_of_ble_eq_true rfl) ?_
            exact W.zret (v := 1) hx hb hr (by rfl) (fun t ht hW => ⟨⟨1, (), rfl, (show ((0 : Int) ≤ (1 : Int) ∧ (1 : Int) ≤ (1 : Int)) by decide), ⟨n_h0_waits_54, n_h0_open_55, n_h0_wantsPart_56, g_a_w1_57, g_a_t1_22, g_a_t2_23, n_a_tp_at_58, n_a_tp_start_59, n_a_tp_end_60, n_a_tp_sort_61, n_a_tp_sign_62, n_a_tp_faultSort_63, n_a_tp_faultPlace_64, n_a_dr_length_65, n_a_dr_knots_66, n_h0_causes_83, g_a_d1_67, g_a_d2_68, g_h1_84, hp_69, hp_70, hp_71, hp_72, hp_73, hp_74, hp_75, hp_76, hp_85, hp_86, by rw [ht]; exact hP9, va_K.moved hW.alike hK9, hD9⟩⟩, hS.F ht⟩) hS.2.2 dX8_readCause_104
          · have k_87 : (r_52).toInt = (0 : Int) := z_eq c_77
            obtain rfl : r_52 = 0 := z_eq' (show (r_52).toInt = (0 : Int) by omega)
            refine lv_iconst (v := 0) hx hb dX8_readCause_94 (by decide) ?_
            obtain ⟨hP9, hD9⟩ := z_sub2 (ws' := [(h0, .inr (8, [.ref a_tp, .ref a_t1, .ref a_t2, .ref a_w1, .int n_h0_waits_54, .int n_h0_open_55, .int n_h0_wantsPart_56, .ref a_dr, h0_8])), (a_w1, .inl (ca_w1, 104, .inl g_a_w1_57)), (a_t1, .inl (ca_t1, 6, .inl g_a_t1_22)), (a_t2, .inl (ca_t2, 6, .inl g_a_t2_23)), (a_tp, .inr (10, [.ref a_tb, .int tt, .int n_a_tp_at_58, .int tj, .int tf, .int n_a_tp_start_59, .int n_a_tp_end_60, .int n_a_tp_sort_61, .int n_a_tp_sign_62, .int n_a_tp_faultSort_63, .int n_a_tp_faultPlace_64])), (a_tb, .inl (ca_tb, 700, .inl fa_tb)), (a_dr, .inr (7, [.ref a_d1, .ref a_d2, .ref a_d3, .int n_a_dr_length_65, .int rc, .int n_a_dr_knots_66])), (a_d1, .inl (ca_d1, 96, .inl g_a_d1_67)), (a_d2, .inl (ca_d2, 96, .inl g_a_d2_68)), (a_d3, .inl (ca_d3, 7, .inl fa_d3))]) hP hD [2, 3, 0, 1, 4, 5, 6, 7, 8, 9] (by decide) rfl
            have hK9 := hK.sub (tys' := []) [] rfl
            refine W.widen (k := 0) (n := 0) (Nat.le_of_ble_eq_true rfl) (Nat.le_of_ble_eq_true rfl) ?_
            exact W.zret (v := 0) hx hb hr (by rfl) (fun t ht hW => ⟨⟨0, (), rfl, (show ((0 : Int) ≤ (0 : Int) ∧ (0 : Int) ≤ (1 : Int)) by decide), ⟨n_h0_waits_54, n_h0_open_55, n_h0_wantsPart_56, g_a_w1_57, g_a_t1_22, g_a_t2_23, n_a_tp_at_58, n_a_tp_start_59, n_a_tp_end_60, n_a_tp_sort_61, n_a_tp_sign_62, n_a_tp_faultSort_63, n_a_tp_faultPlace_64, n_a_dr_length_65, n_a_dr_knots_66, rc, g_a_d1_67, g_a_d2_68, fa_d3, hp_69, hp_70, hp_71, hp_72, hp_73, hp_74, hp_75, hp_76, hB_rc, hI_a_d3, by rw [ht]; exact hP9, va_K.moved hW.alike hK9, hD9⟩⟩, hS.F ht⟩) hS.2.2 dX8_readCause_95
        · have k_89 : (n_a_tp_sign_28).toInt ≠ (58 : Int) := z_ne c_37
          refine lv_aload_n hx hb dX8_readCause_71 rfl (lv_at hl 0 rfl) ?_
          refine va_get (D := (dC, dI)) (ci := 8) (v := .ref a_tp) (C := RX8) (T := TX8) (N := 9) hx hb hts hiX8 hown hK hP 4 rfl rfl 0 (by decide) w__fieldLink_RX8_42_ShellHeap_RulesReader_tape_LShellHeap_Tape_ (fun _ h9 => h9) rfl dX8_readCause_72 ?_
          refine lv_iconst (v := 1) hx hb dX8_readCause_75 (by decide) ?_
          obtain ⟨hPc, hDc, hFc⟩ := z_sub3 (ws' := [(a_tp, .inr (10, [.ref a_tb, .int tt, .int n_a_tp_at_24, .int tj, .int tf, .int n_a_tp_start_25, .int n_a_tp_end_26, .int n_a_tp_sort_27, .int n_a_tp_sign_28, .int n_a_tp_faultSort_29, .int n_a_tp_faultPlace_30]))]) hP hD hS hA [7] (by decide) rfl
          have hKc := hK.sub (tys' := []) [] rfl
          refine va_calli (va_runV (As := [.int 1]) (rest := []) ⟨hx, hb, hml, hown, hts⟩ (s_X10_fail l dC dI H_19.size a_tp 1 (.ref a_tb) (.int tt) (.int n_a_tp_at_24) (.int tj) (.int tf) n_a_tp_start_25 (.int n_a_tp_end_26) (.int n_a_tp_sort_27) (.int n_a_tp_sign_28) n_a_tp_faultSort_29 n_a_tp_faultPlace_30 hp_32) (cwV 1 hts gw_s_X8_readCause_s_X10_fail_67 rfl rfl rfl (by decide +kernel) ⟨Nat.le_of_ble_eq_true rfl, Nat.le_of_ble_eq_true rfl⟩) ⟨z_blind, va_recv hKc hPc (ci := 10) (q0 := 0) rfl rfl, z_pre hPc hKc hDc⟩ rfl rfl hl.1 rfl (lv_room (Nat.le_of_ble_eq_true rfl)) dX8_readCause_76 ⟨Nat.le_of_ble_eq_true rfl, Nat.le_of_ble_eq_true rfl⟩) hS (fun q _ h => hFc q h) hFc (fun r_91 u t H_90 locs ht hvm hw_92 hB hz1 hk1 hS => ?_)
          obtain ⟨n_h0_faultSort_93, n_h0_faultPlace_94, hP1, hK1, hD1⟩ := hB
          rw [ht] at hP1
          have hK1 := va_K.moved hvm.symm hK1
          obtain ⟨hP, hD⟩ := z_ap_9 (va_join (wr := [(a_w1, .inl (ca_w1, 104, .inl fa_w1)), (a_d1, .inl (ca_d1, 96, .inl fa_d1)), (a_d2, .inl (ca_d2, 96, .inl fa_d2)), (a_d3, .inl (ca_d3, 7, .inl fa_d3)), (h0, .inr (8, [.ref a_tp, .ref a_t1, .ref a_t2, .ref a_w1, .int uw, .int uo, .int up, .ref a_dr, h0_8])), (a_t1, .inl (ca_t1, 6, .inl g_a_t1_22)), (a_t2, .inl (ca_t2, 6, .inl g_a_t2_23)), (a_tb, .inl (ca_tb, 700, .inl fa_tb)), (a_dr, .inr (7, [.ref a_d1, .ref a_d2, .ref a_d3, .int rl, .int rc, .int rk]))]) hP hD [7] [0, 1, 2, 3, 4, 5, 6, 8, 9] rfl rfl (by decide) (by decide) hk1 hFc hP1 hD1)
          clear hPc hDc hKc
          obtain rfl : r_91 = 0 := hw_92
          obtain ⟨hP9, hD9⟩ := z_sub2 (ws' := [(h0, .inr (8, [.ref a_tp, .ref a_t1, .ref a_t2, .ref a_w1, .int uw, .int uo, .int up, .ref a_dr, h0_8])), (a_w1, .inl (ca_w1, 104, .inl fa_w1)), (a_t1, .inl (ca_t1, 6, .inl g_a_t1_22)), (a_t2, .inl (ca_t2, 6, .inl g_a_t2_23)), (a_tp, .inr (10, [.ref a_tb, .int tt, .int n_a_tp_at_24, .int tj, .int tf, .int n_a_tp_start_25, .int n_a_tp_end_26, .int n_a_tp_sort_27, .int n_a_tp_sign_28, .int n_h0_faultSort_93, .int n_h0_faultPlace_94])), (a_tb, .inl (ca_tb, 700, .inl fa_tb)), (a_dr, .inr (7, [.ref a_d1, .ref a_d2, .ref a_d3, .int rl, .int rc, .int rk])), (a_d1, .inl (ca_d1, 96, .inl fa_d1)), (a_d2, .inl (ca_d2, 96, .inl fa_d2)), (a_d3, .inl (ca_d3, 7, .inl fa_d3))]) hP hD [4, 0, 5, 6, 9, 7, 8, 1, 2, 3] (by decide) rfl
          have hK9 := hK.sub (tys' := []) [] rfl
          refine W.widen (k := 0) (n := 0) (Nat.le_of_ble_eq_true rfl) (Nat.le_of_ble_eq_true rfl) ?_
          exact W.zret (v := 0) hx hb hr (by rfl) (fun t ht hW => ⟨⟨0, (), rfl, (show ((0 : Int) ≤ (0 : Int) ∧ (0 : Int) ≤ (1 : Int)) by decide), ⟨uw, uo, up, fa_w1, g_a_t1_22, g_a_t2_23, n_a_tp_at_24, n_a_tp_start_25, n_a_tp_end_26, n_a_tp_sort_27, n_a_tp_sign_28, n_h0_faultSort_93, n_h0_faultPlace_94, rl, rk, rc, fa_d1, fa_d2, fa_d3, hB_uw, hB_uo, hB_up, hp_31, hp_32, hp_33, hB_rl, hB_rk, hB_rc, hI_a_d3, by rw [ht]; exact hP9, va_K.moved hW.alike hK9, hD9⟩⟩, hS.F ht⟩) hS.2.2 dX8_readCause_79
      · have k_95 : (r_20).toInt = (0 : Int) := z_eq c_34
        obtain rfl : r_20 = 0 := z_eq' (show (r_20).toInt = (0 : Int) by omega)
        refine lv_iconst (v := 0) hx hb dX8_readCause_57 (by decide) ?_
        obtain ⟨hP9, hD9⟩ := z_sub2 (ws' := [(h0, .inr (8, [.ref a_tp, .ref a_t1, .ref a_t2, .ref a_w1, .int uw, .int uo, .int up, .ref a_dr, h0_8])), (a_w1, .inl (ca_w1, 104, .inl fa_w1)), (a_t1, .inl (ca_t1, 6, .inl g_a_t1_22)), (a_t2, .inl (ca_t2, 6, .inl g_a_t2_23)), (a_tp, .inr (10, [.ref a_tb, .int tt, .int n_a_tp_at_24, .int tj, .int tf, .int n_a_tp_start_25, .int n_a_tp_end_26, .int n_a_tp_sort_27, .int n_a_tp_sign_28, .int n_a_tp_faultSort_29, .int n_a_tp_faultPlace_30])), (a_tb, .inl (ca_tb, 700, .inl fa_tb)), (a_dr, .inr (7, [.ref a_d1, .ref a_d2, .ref a_d3, .int rl, .int rc, .int rk])), (a_d1, .inl (ca_d1, 96, .inl fa_d1)), (a_d2, .inl (ca_d2, 96, .inl fa_d2)), (a_d3, .inl (ca_d3, 7, .inl fa_d3))]) hP hD [4, 0, 5, 6, 7, 8, 9, 1, 2, 3] (by decide) rfl
        have hK9 := hK.sub (tys' := []) [] rfl
        refine W.widen (k := 0) (n := 0) (Nat.le_of_ble_eq_true rfl) (Nat.le_of_ble_eq_true rfl) ?_
        exact W.zret (v := 0) hx hb hr (by rfl) (fun t ht hW => ⟨⟨0, (), rfl, (show ((0 : Int) ≤ (0 : Int) ∧ (0 : Int) ≤ (1 : Int)) by decide), ⟨uw, uo, up, fa_w1, g_a_t1_22, g_a_t2_23, n_a_tp_at_24, n_a_tp_start_25, n_a_tp_end_26, n_a_tp_sort_27, n_a_tp_sign_28, n_a_tp_faultSort_29, n_a_tp_faultPlace_30, rl, rk, rc, fa_d1, fa_d2, fa_d3, hB_uw, hB_uo, hB_up, hp_31, hp_32, hp_33, hB_rl, hB_rk, hB_rc, hI_a_d3, by rw [ht]; exact hP9, va_K.moved hW.alike hK9, hD9⟩⟩, hS.F ht⟩) hS.2.2 dX8_readCause_58
    · have k_97 : (rc).toInt ≥ (6 : Int) := z_nlt c_6
      obtain rfl : rc = 6 := z_eq' (show (rc).toInt = (6 : Int) by omega)
      refine lv_aload_n hx hb dX8_readCause_34 rfl (lv_at hl 0 rfl) ?_
      refine va_get (D := (dC, dI)) (ci := 8) (v := .ref a_tp) (C := RX8) (T := TX8) (N := 9) hx hb hts hiX8 hown hK hP 0 rfl rfl 0 (by decide) w__fieldLink_RX8_42_ShellHeap_RulesReader_tape_LShellHeap_Tape_ (fun _ h9 => h9) rfl dX8_readCause_35 ?_
      refine lv_iconst (v := 2) hx hb dX8_readCause_38 (by decide) ?_
      obtain ⟨hPc, hDc, hFc⟩ := z_sub3 (ws' := [(a_tp, .inr (10, [.ref a_tb, .int tt, .int ta, .int tj, .int tf, .int ts, .int te, .int to, .int tg, .int tx, .int ty]))]) hP hD hS hA [4] (by decide) rfl
      have hKc := hK.sub (tys' := []) [] rfl
      refine va_calli (va_runV (As := [.int 2]) (rest := []) ⟨hx, hb, hml, hown, hts⟩ (s_X10_fail l dC dI H_1.size a_tp 2 (.ref a_tb) (.int tt) (.int ta) (.int tj) (.int tf) ts (.int te) (.int to) (.int tg) tx ty hB_ts) (cwV 1 hts gw_s_X8_readCause_s_X10_fail_67 rfl rfl rfl (by decide +kernel) ⟨Nat.le_of_ble_eq_true rfl, Nat.le_of_ble_eq_true rfl⟩) ⟨z_blind, va_recv hKc hPc (ci := 10) (q0 := 0) rfl rfl, z_pre hPc hKc hDc⟩ rfl rfl hl.1 rfl (lv_room (Nat.le_of_ble_eq_true rfl)) dX8_readCause_39 ⟨Nat.le_of_ble_eq_true rfl, Nat.le_of_ble_eq_true rfl⟩) hS (fun q _ h => hFc q h) hFc (fun r_100 u t H_99 locs ht hvm hw_101 hB hz1 hk1 hS => ?_)
      obtain ⟨n_h0_faultSort_102, n_h0_faultPlace_103, hP1, hK1, hD1⟩ := hB
      rw [ht] at hP1
      have hK1 := va_K.moved hvm.symm hK1
      obtain ⟨hP, hD⟩ := z_ap_9 (va_join (wr := [(h0, .inr (8, [.ref a_tp, .ref a_t1, .ref a_t2, .ref a_w1, .int uw, .int uo, .int up, .ref a_dr, h0_8])), (a_w1, .inl (ca_w1, 104, .inl fa_w1)), (a_t1, .inl (ca_t1, 6, .inl fa_t1)), (a_t2, .inl (ca_t2, 6, .inl fa_t2)), (a_tb, .inl (ca_tb, 700, .inl fa_tb)), (a_dr, .inr (7, [.ref a_d1, .ref a_d2, .ref a_d3, .int rl, .int 6, .int rk])), (a_d1, .inl (ca_d1, 96, .inl fa_d1)), (a_d2, .inl (ca_d2, 96, .inl fa_d2)), (a_d3, .inl (ca_d3, 7, .inl fa_d3))]) hP hD [4] [0, 1, 2, 3, 5, 6, 7, 8, 9] rfl rfl (by decide) (by decide) hk1 hFc hP1 hD1)
      clear hPc hDc hKc
      obtain rfl : r_100 = 0 := hw_101
      obtain ⟨hP9, hD9⟩ := z_sub2 (ws' := [(h0, .inr (8, [.ref a_tp, .ref a_t1, .ref a_t2, .ref a_w1, .int uw, .int uo, .int up, .ref a_dr, h0_8])), (a_w1, .inl (ca_w1, 104, .inl fa_w1)), (a_t1, .inl (ca_t1, 6, .inl fa_t1)), (a_t2, .inl (ca_t2, 6, .inl fa_t2)), (a_tp, .inr (10, [.ref a_tb, .int tt, .int ta, .int tj, .int tf, .int ts, .int te, .int to, .int tg, .int n_h0_faultSort_102, .int n_h0_faultPlace_103])), (a_tb, .inl (ca_tb, 700, .inl fa_tb)), (a_dr, .inr (7, [.ref a_d1, .ref a_d2, .ref a_d3, .int rl, .int 6, .int rk])), (a_d1, .inl (ca_d1, 96, .inl fa_d1)), (a_d2, .inl (ca_d2, 96, .inl fa_d2)), (a_d3, .inl (ca_d3, 7, .inl fa_d3))]) hP hD [0, 1, 2, 3, 9, 4, 5, 6, 7, 8] (by decide) rfl
      have hK9 := hK.sub (tys' := []) [] rfl
      refine W.widen (k := 0) (n := 0) (Nat.le_of_ble_eq_true rfl) (Nat.le_of_ble_eq_true rfl) ?_
      exact W.zret (v := 0) hx hb hr (by rfl) (fun t ht hW => ⟨⟨0, (), rfl, (show ((0 : Int) ≤ (0 : Int) ∧ (0 : Int) ≤ (1 : Int)) by decide), ⟨uw, uo, up, fa_w1, fa_t1, fa_t2, ta, ts, te, to, tg, n_h0_faultSort_102, n_h0_faultPlace_103, rl, rk, 6, fa_d1, fa_d2, fa_d3, hB_uw, hB_uo, hB_up, hB_ta, hB_ts, hB_te, hB_rl, hB_rk, (by decide), hI_a_d3, by rw [ht]; exact hP9, va_K.moved hW.alike hK9, hD9⟩⟩, hS.F ht⟩) hS.2.2 dX8_readCause_42
  · have k_104 : (r_2).toInt = (-1 : Int) := z_eq c_4
    obtain rfl : r_2 = (-1) := z_eq' (show (r_2).toInt = (-1 : Int) by omega)
    refine lv_aload_n hx hb dX8_readCause_13 rfl (lv_at hl 0 rfl) ?_
    refine va_get (D := (dC, dI)) (ci := 8) (v := .ref a_tp) (C := RX8) (T := TX8) (N := 9) hx hb hts hiX8 hown hK hP 0 rfl rfl 0 (by decide) w__fieldLink_RX8_42_ShellHeap_RulesReader_tape_LShellHeap_Tape_ (fun _ h9 => h9) rfl dX8_readCause_14 ?_
    refine lv_iconst (v := 1) hx hb dX8_readCause_17 (by decide) ?_
    obtain ⟨hPc, hDc, hFc⟩ := z_sub3 (ws' := [(a_tp, .inr (10, [.ref a_tb, .int tt, .int ta, .int tj, .int tf, .int ts, .int te, .int to, .int tg, .int tx, .int ty]))]) hP hD hS hA [4] (by decide) rfl
    have hKc := hK.sub (tys' := []) [] rfl
    refine va_calli (va_runV (As := [.int 1]) (rest := []) ⟨hx, hb, hml, hown, hts⟩ (s_X10_fail l dC dI H_1.size a_tp 1 (.ref a_tb) (.int tt) (.int ta) (.int tj) (.int tf) ts (.int te) (.int to) (.int tg) tx ty hB_ts) (cwV 1 hts gw_s_X8_readCause_s_X10_fail_67 rfl rfl rfl (by decide +kernel) ⟨Nat.le_of_ble_eq_true rfl, Nat.le_of_ble_eq_true rfl⟩) ⟨z_blind, va_recv hKc hPc (ci := 10) (q0 := 0) rfl rfl, z_pre hPc hKc hDc⟩ rfl rfl hl.1 rfl (lv_room (Nat.le_of_ble_eq_true rfl)) dX8_readCause_18 ⟨Nat.le_of_ble_eq_true rfl, Nat.le_of_ble_eq_true rfl⟩) hS (fun q _ h => hFc q h) hFc (fun r_107 u t H_106 locs ht hvm hw_108 hB hz1 hk1 hS => ?_)
    obtain ⟨n_h0_faultSort_109, n_h0_faultPlace_110, hP1, hK1, hD1⟩ := hB
    rw [ht] at hP1
    have hK1 := va_K.moved hvm.symm hK1
    obtain ⟨hP, hD⟩ := z_ap_9 (va_join (wr := [(h0, .inr (8, [.ref a_tp, .ref a_t1, .ref a_t2, .ref a_w1, .int uw, .int uo, .int up, .ref a_dr, h0_8])), (a_w1, .inl (ca_w1, 104, .inl fa_w1)), (a_t1, .inl (ca_t1, 6, .inl fa_t1)), (a_t2, .inl (ca_t2, 6, .inl fa_t2)), (a_tb, .inl (ca_tb, 700, .inl fa_tb)), (a_dr, .inr (7, [.ref a_d1, .ref a_d2, .ref a_d3, .int rl, .int rc, .int rk])), (a_d1, .inl (ca_d1, 96, .inl fa_d1)), (a_d2, .inl (ca_d2, 96, .inl fa_d2)), (a_d3, .inl (ca_d3, 7, .inl fa_d3))]) hP hD [4] [0, 1, 2, 3, 5, 6, 7, 8, 9] rfl rfl (by decide) (by decide) hk1 hFc hP1 hD1)
    clear hPc hDc hKc
    obtain rfl : r_107 = 0 := hw_108
    obtain ⟨hP9, hD9⟩ := z_sub2 (ws' := [(h0, .inr (8, [.ref a_tp, .ref a_t1, .ref a_t2, .ref a_w1, .int uw, .int uo, .int up, .ref a_dr, h0_8])), (a_w1, .inl (ca_w1, 104, .inl fa_w1)), (a_t1, .inl (ca_t1, 6, .inl fa_t1)), (a_t2, .inl (ca_t2, 6, .inl fa_t2)), (a_tp, .inr (10, [.ref a_tb, .int tt, .int ta, .int tj, .int tf, .int ts, .int te, .int to, .int tg, .int n_h0_faultSort_109, .int n_h0_faultPlace_110])), (a_tb, .inl (ca_tb, 700, .inl fa_tb)), (a_dr, .inr (7, [.ref a_d1, .ref a_d2, .ref a_d3, .int rl, .int rc, .int rk])), (a_d1, .inl (ca_d1, 96, .inl fa_d1)), (a_d2, .inl (ca_d2, 96, .inl fa_d2)), (a_d3, .inl (ca_d3, 7, .inl fa_d3))]) hP hD [0, 1, 2, 3, 9, 4, 5, 6, 7, 8] (by decide) rfl
    have hK9 := hK.sub (tys' := []) [] rfl
    refine W.widen (k := 0) (n := 0) (Nat.le_of_ble_eq_true rfl) (Nat.le_of_ble_eq_true rfl) ?_
    exact W.zret (v := 0) hx hb hr (by rfl) (fun t ht hW => ⟨⟨0, (), rfl, (show ((0 : Int) ≤ (0 : Int) ∧ (0 : Int) ≤ (1 : Int)) by decide), ⟨uw, uo, up, fa_w1, fa_t1, fa_t2, ta, ts, te, to, tg, n_h0_faultSort_109, n_h0_faultPlace_110, rl, rk, rc, fa_d1, fa_d2, fa_d3, hB_uw, hB_uo, hB_up, hB_ta, hB_ts, hB_te, hB_rl, hB_rk, hB_rc, hI_a_d3, by rw [ht]; exact hP9, va_K.moved hW.alike hK9, hD9⟩⟩, hS.F ht⟩) hS.2.2 dX8_readCause_21
