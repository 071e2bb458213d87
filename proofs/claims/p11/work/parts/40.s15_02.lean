def u_s_X8_tieKnot : List Cond := .code yX8_tieKnot cX8_tieKnot 1 (some .boolean) :: ([.fieldLink RX8 35 "ShellHeap$RulesReader" "draft" "LShellHeap$Rules;", .fieldLink RX8 136 "ShellHeap$Rules" "knots" "I", .fieldLink RX8 42 "ShellHeap$RulesReader" "tape" "LShellHeap$Tape;", .methodLink RX8 67 yX10_fail, .instanceMethod yX10_fail, .selects RX10 yX10_fail yX10_fail, .initialized RX10] ++ (wsX80 ++ (wsX70 ++ (u_s_X10_fail ++ []))))
theorem gd_s_X8_tieKnot : z_gd u_s_X8_tieKnot := z_gdc (by decide +kernel) (z_gda gdX8 (z_gda gdX7 (z_gda gd_s_X10_fail (z_gd0))))
set_option maxRecDepth 20000 in
theorem gw_s_X8_tieKnot_s_X10_fail_67 : GoodIn u_s_X8_tieKnot (wsV RX8 67 RX10 yX10_fail u_s_X10_fail) := z_gV (z_gr _ [4, 5, 6, 7] rfl (by decide +kernel)) (fun w h => ⟨z_mc (z_mr (z_mr (z_mr (z_ml h)))), gd_s_X10_fail w h⟩)
set_option maxHeartbeats 4000000 in
set_option maxRecDepth 100000 in
theorem s_X8_tieKnot (l : Launch) (dC : Nat → ClassId) (dI : Nat → Nat → Nat) (sz : Nat) (h0 : Nat) (a_tp : Nat) (a_t1 : Nat) (a_t2 : Nat) (a_w1 : Nat) (uw : Int32) (uo : Int32) (up : Int32) (a_dr : Nat) (h0_8 : Value) (a_tb : Nat) (tt : Int32) (ta : Int32) (tj : Int32) (tf : Int32) (ts : Int32) (te : Int32) (to : Int32) (tg : Int32) (tx : Int32) (ty : Int32) (ca_tb : ClassId) (fa_tb : Nat → Int32) (a_d1 : Nat) (a_d2 : Nat) (a_d3 : Nat) (rl : Int32) (rc : Int32) (rk : Int32) (hB_tt : ((0 : Int) ≤ (tt).toInt ∧ (tt).toInt ≤ (700 : Int))) (hB_ta : ((0 : Int) ≤ (ta).toInt ∧ (ta).toInt ≤ (700 : Int))) (hB_tf : ((0 : Int) ≤ (tf).toInt ∧ (tf).toInt ≤ (700 : Int))) (hB_ts : ((0 : Int) ≤ (ts).toInt ∧ (ts).toInt ≤ (700 : Int))) (hB_te : ((0 : Int) ≤ (te).toInt ∧ (te).toInt ≤ (700 : Int))) (hB_uw : ((0 : Int) ≤ (uw).toInt ∧ (uw).toInt ≤ (104 : Int))) (hB_uo : ((0 : Int) ≤ (uo).toInt ∧ (uo).toInt ≤ (8 : Int))) (hB_up : ((0 : Int) ≤ (up).toInt ∧ (up).toInt ≤ (1 : Int))) (hB_rl : ((0 : Int) ≤ (rl).toInt ∧ (rl).toInt ≤ (96 : Int))) (hB_rc : ((0 : Int) ≤ (rc).toInt ∧ (rc).toInt ≤ (6 : Int))) (hB_rk : ((0 : Int) ≤ (rk).toInt ∧ (rk).toInt ≤ (96 : Int))) (hI_a_tb : ∀ j : Nat, ((0 : Int) ≤ (fa_tb j).toInt ∧ (fa_tb j).toInt ≤ (255 : Int))) : Met l yX8_tieKnot u_s_X8_tieKnot ({ frames := 1, cells := 0, slots := 0, locals := 21 }) (va_Pc [.ref h0] (z_C (dC, dI) vwCl [(h0, .inr (8, [.ref a_tp, .ref a_t1, .ref a_t2, .ref a_w1, .int uw, .int uo, .int up, .ref a_dr, h0_8])), (a_tp, .inr (10, [.ref a_tb, .int tt, .int ta, .int tj, .int tf, .int ts, .int te, .int to, .int tg, .int tx, .int ty])), (a_tb, .inl (ca_tb, 700, .inl fa_tb)), (a_dr, .inr (7, [.ref a_d1, .ref a_d2, .ref a_d3, .int rl, .int rc, .int rk]))] [(ca_tb, .int)] sz)) (va_Qi (fun (r : Int32) (_ : Unit) => ((0 : Int) ≤ (r).toInt ∧ (r).toInt ≤ (1 : Int))) (fun (_ : Unit) (t : State) => ∃ (n_a_tp_faultSort : Int32), ∃ (n_a_tp_faultPlace : Int32), ∃ (n_a_dr_knots : Int32), ((0 : Int) ≤ (n_a_dr_knots).toInt ∧ (n_a_dr_knots).toInt ≤ (96 : Int)) ∧ va_P (dC, dI) vwCl [(h0, .inr (8, [.ref a_tp, .ref a_t1, .ref a_t2, .ref a_w1, .int uw, .int uo, .int up, .ref a_dr, h0_8])), (a_tp, .inr (10, [.ref a_tb, .int tt, .int ta, .int tj, .int tf, .int ts, .int te, .int to, .int tg, .int n_a_tp_faultSort, .int n_a_tp_faultPlace])), (a_tb, .inl (ca_tb, 700, .inl fa_tb)), (a_dr, .inr (7, [.ref a_d1, .ref a_d2, .ref a_d3, .int rl, .int rc, .int n_a_dr_knots]))] t.heap ∧ va_K (dC, dI) vwCl [] t ∧ va_D (va_A [(h0, .inr (8, [.ref a_tp, .ref a_t1, .ref a_t2, .ref a_w1, .int uw, .int uo, .int up, .ref a_dr, h0_8])), (a_tp, .inr (10, [.ref a_tb, .int tt, .int ta, .int tj, .int tf, .int ts, .int te, .int to, .int tg, .int tx, .int ty])), (a_tb, .inl (ca_tb, 700, .inl fa_tb)), (a_dr, .inr (7, [.ref a_d1, .ref a_d2, .ref a_d3, .int rl, .int rc, .int rk]))] sz) [(h0, .inr (8, [.ref a_tp, .ref a_t1, .ref a_t2, .ref a_w1, .int uw, .int uo, .int up, .ref a_dr, h0_8])), (a_tp, .inr (10, [.ref a_tb, .int tt, .int ta, .int tj, .int tf, .int ts, .int te, .int to, .int tg, .int n_a_tp_faultSort, .int n_a_tp_faultPlace])), (a_tb, .inl (ca_tb, 700, .inl fa_tb)), (a_dr, .inr (7, [.ref a_d1, .ref a_d2, .ref a_d3, .int rl, .int rc, .int n_a_dr_knots]))]) (va_A [(h0, .inr (8, [.ref a_tp, .ref a_t1, .ref a_t2, .ref a_w1, .int uw, .int uo, .int up, .ref a_dr, h0_8])), (a_tp, .inr (10, [.ref a_tb, .int tt, .int ta, .int tj, .int tf, .int ts, .int te, .int to, .int tg, .int tx, .int ty])), (a_tb, .inl (ca_tb, 700, .inl fa_tb)), (a_dr, .inr (7, [.ref a_d1, .ref a_d2, .ref a_d3, .int rl, .int rc, .int rk]))] sz)) 0 0 (va_A [(h0, .inr (8, [.ref a_tp, .ref a_t1, .ref a_t2, .ref a_w1, .int uw, .int uo, .int up, .ref a_dr, h0_8])), (a_tp, .inr (10, [.ref a_tb, .int tt, .int ta, .int tj, .int tf, .int ts, .int te, .int to, .int tg, .int tx, .int ty])), (a_tb, .inl (ca_tb, 700, .inl fa_tb)), (a_dr, .inr (7, [.ref a_d1, .ref a_d2, .ref a_d3, .int rl, .int rc, .int rk]))] sz) := by
  refine Met.ofW (cc := cX8_tieKnot) (maxL := 1) (ret := (some .boolean)) (by decide) rfl ?_
  intro p e s m args below meth c s₁ B hml hv
  obtain ⟨rfl, hsz, hP, hK, hD0⟩ := hv
  have hx := B.exec
  have hb := B.bytes
  have hr := B.returns
  have hts := atoms_spec (ws := u_s_X8_tieKnot) B.pre
  have hown : s.vm.findClass RX8 = some m.cls := findClass_of_methodNamed B.named
  have hlocks := B.notSynchronized
  subst hsz
  have hD := hD0.self (sz := s.heap.size)
  generalize hAe : va_A [(h0, .inr (8, [.ref a_tp, .ref a_t1, .ref a_t2, .ref a_w1, .int uw, .int uo, .int up, .ref a_dr, h0_8])), (a_tp, .inr (10, [.ref a_tb, .int tt, .int ta, .int tj, .int tf, .int ts, .int te, .int to, .int tg, .int tx, .int ty])), (a_tb, .inl (ca_tb, 700, .inl fa_tb)), (a_dr, .inr (7, [.ref a_d1, .ref a_d2, .ref a_d3, .int rl, .int rc, .int rk]))] s.heap.size = A at hD ⊢
  have hA : ∀ q : Nat, s.heap.size ≤ q → A q := fun q h => by rw [← hAe]; exact Or.inr h
  have hS : va_S A s.heap s.heap [] := va_S.rf
  have hP : va_P (dC, dI) vwCl [(h0, .inr (8, [.ref a_tp, .ref a_t1, .ref a_t2, .ref a_w1, .int uw, .int uo, .int up, .ref a_dr, h0_8])), (a_tp, .inr (10, [.ref a_tb, .int tt, .int ta, .int tj, .int tf, .int ts, .int te, .int to, .int tg, .int tx, .int ty])), (a_tb, .inl (ca_tb, 700, .inl fa_tb)), (a_dr, .inr (7, [.ref a_d1, .ref a_d2, .ref a_d3, .int rl, .int rc, .int rk]))] s.heap := hP
  have w__fieldLink_RX8_35_ShellHeap_RulesReader_draft_LShellHeap_Rules_ := hts (.fieldLink RX8 35 "ShellHeap$RulesReader" "draft" "LShellHeap$Rules;") (z_mc (z_ml z_m0))
  have hiX8 := show ∀ w ∈ u_ws RX8 TX8 9, w ∈ u_s_X8_tieKnot from fun w h => z_mc (z_mr (z_ml h))
  have w__fieldLink_RX8_136_ShellHeap_Rules_knots_I_ := hts (.fieldLink RX8 136 "ShellHeap$Rules" "knots" "I") (z_mc (z_ml z_m1))
  have hiX7 := show ∀ w ∈ u_ws RX7 TX7 6, w ∈ u_s_X8_tieKnot from fun w h => z_mc (z_mr (z_mr (z_ml h)))
  have w__fieldLink_RX8_42_ShellHeap_RulesReader_tape_LShellHeap_Tape_ := hts (.fieldLink RX8 42 "ShellHeap$RulesReader" "tape" "LShellHeap$Tape;") (z_mc (z_ml z_m2))
  have hl := lv_entry ([.ref h0]) (n := 1) (Nat.le_of_ble_eq_true rfl)
  rw [lg_entry_eq]
  generalize (lg_sl ([.ref h0]) ++ List.replicate (1 - (lg_sl ([.ref h0])).length) Slot.unset).toArray = ls at hl ⊢
  have hl : lv_has ls 1 [(0, .ref h0)] := hl
  refine lv_aload_n hx hb dX8_tieKnot_0 rfl (lv_at hl 0 rfl) ?_
  refine va_get (D := (dC, dI)) (ci := 8) (v := .ref a_dr) (C := RX8) (T := TX8) (N := 9) hx hb hts hiX8 hown hK hP 0 rfl rfl 7 (by decide) w__fieldLink_RX8_35_ShellHeap_RulesReader_draft_LShellHeap_Rules_ (fun _ h9 => h9) rfl dX8_tieKnot_1 ?_
  refine va_get (D := (dC, dI)) (ci := 7) (v := .int rk) (C := RX7) (T := TX7) (N := 6) hx hb hts hiX7 hown hK hP 3 rfl rfl 5 (by decide) w__fieldLink_RX8_136_ShellHeap_Rules_knots_I_ (fun _ h9 => h9) rfl dX8_tieKnot_4 ?_
  refine lv_bipush (v := 96) hx hb dX8_tieKnot_7 (by decide) ?_
  refine lv_icmp_lt (tgt := 21) hx hb dX8_tieKnot_9 (by decide) (fun c_1 => ?_) (fun c_1 => ?_)
  · have k_2 : (rk).toInt < (96 : Int) := z_lt c_1
    refine lv_aload_n hx hb dX8_tieKnot_21 rfl (lv_at hl 0 rfl) ?_
    refine va_get (D := (dC, dI)) (ci := 8) (v := .ref a_dr) (C := RX8) (T := TX8) (N := 9) hx hb hts hiX8 hown hK hP 0 rfl rfl 7 (by decide) w__fieldLink_RX8_35_ShellHeap_RulesReader_draft_LShellHeap_Rules_ (fun _ h9 => h9) rfl dX8_tieKnot_22 ?_
    refine lv_dup hx hb dX8_tieKnot_25 rfl ?_
    refine va_get (D := (dC, dI)) (ci := 7) (v := .int rk) (C := RX7) (T := TX7) (N := 6) hx hb hts hiX7 hown hK hP 3 rfl rfl 5 (by decide) w__fieldLink_RX8_136_ShellHeap_Rules_knots_I_ (fun _ h9 => h9) rfl dX8_tieKnot_26 ?_
    refine lv_iconst (v := 1) hx hb dX8_tieKnot_29 (by decide) ?_
    refine lv_iadd hx hb dX8_tieKnot_30 ?_
    refine lv_topi (fun z_3 ez_3 => ?_)
    have kz_3 : (z_3).toInt = (rk).toInt + (1 : Int) := by rw [ez_3]; exact z_add (a := (rk).toInt) (b := (1 : Int)) rfl rfl (z_al hB_rk.1 (by decide)) (z_ah hB_rk.2 (by decide))
    refine va_put (D := (dC, dI)) (ci := 7) (v := .int z_3) (ty := .int) (C := RX7) (T := TX7) (N := 6) hx hb hts hiX7 tyX7 tyX7_ok nmX7 hown hK hP hD hS 3 rfl rfl 5 (by decide) w__fieldLink_RX8_136_ShellHeap_Rules_knots_I_ (fun _ h9 => h9) rfl (by decide +kernel) rfl rfl (Nat.le_of_ble_eq_true rfl) dX8_tieKnot_31 (fun H_4 locs hP hD hS => ?_)
    obtain ⟨hP, hD⟩ := z_s_3_5 hP hD
    refine lv_iconst (v := 1) hx hb dX8_tieKnot_34 (by decide) ?_
    have hP9 := hP
    have hD9 := hD
    have hK9 := hK.sub (tys' := []) [] rfl
    refine W.widen (k := 0) (n := 0) (Nat.le_of_ble_eq_true rfl) (Nat.le_of_ble_eq_true rfl) ?_
    exact W.zret (v := 1) hx hb hr (by rfl) (fun t ht hW => ⟨⟨1, (), rfl, (show ((0 : Int) ≤ (1 : Int) ∧ (1 : Int) ≤ (1 : Int)) by decide), ⟨tx, ty, z_3, (by first | omega | decide), by rw [ht]; exact hP9, va_K.moved hW.alike hK9, hD9⟩⟩, hS.F ht⟩) hS.2.2 dX8_tieKnot_35
  · have k_5 : (rk).toInt ≥ (96 : Int) := z_nlt c_1
    obtain rfl : rk = 96 := z_eq' (show (rk).toInt = (96 : Int) by omega)
    refine lv_aload_n hx hb dX8_tieKnot_12 rfl (lv_at hl 0 rfl) ?_
    refine va_get (D := (dC, dI)) (ci := 8) (v := .ref a_tp) (C := RX8) (T := TX8) (N := 9) hx hb hts hiX8 hown hK hP 0 rfl rfl 0 (by decide) w__fieldLink_RX8_42_ShellHeap_RulesReader_tape_LShellHeap_Tape_ (fun _ h9 => h9) rfl dX8_tieKnot_13 ?_
    refine lv_iconst (v := 2) hx hb dX8_tieKnot_16 (by decide) ?_
    obtain ⟨hPc, hDc, hFc⟩ := z_sub3 (ws' := [(a_tp, .inr (10, [.ref a_tb, .int tt, .int ta, .int tj, .int tf, .int ts, .int te, .int to, .int tg, .int tx, .int ty]))]) hP hD hS hA [1] (by decide) rfl
    have hKc := hK.sub (tys' := []) [] rfl
    refine va_calli (va_runV (As := [.int 2]) (rest := []) ⟨hx, hb, hml, hown, hts⟩ (s_X10_fail l dC dI s.heap.size a_tp 2 (.ref a_tb) (.int tt) (.int ta) (.int tj) (.int tf) ts (.int te) (.int to) (.int tg) tx ty hB_ts) (cwV 1 hts gw_s_X8_tieKnot_s_X10_fail_67 rfl rfl rfl (by decide +kernel) ⟨Nat.le_of_ble_eq_true rfl, Nat.le_of_ble_eq_true rfl⟩) ⟨z_blind, va_recv hKc hPc (ci := 10) (q0 := 0) rfl rfl, z_pre hPc hKc hDc⟩ rfl rfl hl.1 rfl (lv_room (Nat.le_of_ble_eq_true rfl)) dX8_tieKnot_17 ⟨Nat.le_of_ble_eq_true rfl, Nat.le_of_ble_eq_true rfl⟩) hS (fun q _ h => hFc q h) hFc (fun r_8 u t H_7 locs ht hvm hw_9 hB hz1 hk1 hS => ?_)
    obtain ⟨n_h0_faultSort_10, n_h0_faultPlace_11, hP1, hK1, hD1⟩ := hB
    rw [ht] at hP1
    have hK1 := va_K.moved hvm.symm hK1
    obtain ⟨hP, hD⟩ := z_ap_3 (va_join (wr := [(h0, .inr (8, [.ref a_tp, .ref a_t1, .ref a_t2, .ref a_w1, .int uw, .int uo, .int up, .ref a_dr, h0_8])), (a_tb, .inl (ca_tb, 700, .inl fa_tb)), (a_dr, .inr (7, [.ref a_d1, .ref a_d2, .ref a_d3, .int rl, .int rc, .int 96]))]) hP hD [1] [0, 2, 3] rfl rfl (by decide) (by decide) hk1 hFc hP1 hD1)
    clear hPc hDc hKc
    obtain rfl : r_8 = 0 := hw_9
    obtain ⟨hP9, hD9⟩ := z_sub2 (ws' := [(h0, .inr (8, [.ref a_tp, .ref a_t1, .ref a_t2, .ref a_w1, .int uw, .int uo, .int up, .ref a_dr, h0_8])), (a_tp, .inr (10, [.ref a_tb, .int tt, .int ta, .int tj, .int tf, .int ts, .int te, .int to, .int tg, .int n_h0_faultSort_10, .int n_h0_faultPlace_11])), (a_tb, .inl (ca_tb, 700, .inl fa_tb)), (a_dr, .inr (7, [.ref a_d1, .ref a_d2, .ref a_d3, .int rl, .int rc, .int 96]))]) hP hD [0, 3, 1, 2] (by decide) rfl
    have hK9 := hK.sub (tys' := []) [] rfl
    refine W.widen (k := 0) (n := 0) (Nat.le_of_ble_eq_true rfl) (Nat.le_of_ble_eq_true rfl) ?_
    exact W.zret (v := 0) hx hb hr (by rfl) (fun t ht hW => ⟨⟨0, (), rfl, (show ((0 : Int) ≤ (0 : Int) ∧ (0 : Int) ≤ (1 : Int)) by decide), ⟨n_h0_faultSort_10, n_h0_faultPlace_11, 96, (by decide), by rw [ht]; exact hP9, va_K.moved hW.alike hK9, hD9⟩⟩, hS.F ht⟩) hS.2.2 dX8_tieKnot_20
def u_s_X8_takeOpen : List Cond := .code yX8_takeOpen cX8_takeOpen 1 (some .boolean) :: ([.fieldLink RX8 27 "ShellHeap$RulesReader" "open" "I", .methodLink RX8 139 yX8_await, .instanceMethod yX8_await, .selects RX8 yX8_await yX8_await, .initialized RX8, .fieldLink RX8 42 "ShellHeap$RulesReader" "tape" "LShellHeap$Tape;", .methodLink RX8 67 yX10_fail, .instanceMethod yX10_fail, .selects RX10 yX10_fail yX10_fail, .initialized RX10] ++ (wsX80 ++ (u_s_X8_await ++ (u_s_X10_fail ++ []))))
theorem gd_s_X8_takeOpen : z_gd u_s_X8_takeOpen := z_gdc (by decide +kernel) (z_gda gdX8 (z_gda gd_s_X8_await (z_gda gd_s_X10_fail (z_gd0))))
set_option maxRecDepth 20000 in
theorem gw_s_X8_takeOpen_s_X8_await_139 : GoodIn u_s_X8_takeOpen (wsV RX8 139 RX8 yX8_await u_s_X8_await) := z_gV (z_gr _ [2, 3, 4, 5] rfl (by decide +kernel)) (fun w h => ⟨z_mc (z_mr (z_mr (z_ml h))), gd_s_X8_await w h⟩)
set_option maxRecDepth 20000 in
theorem gw_s_X8_takeOpen_s_X10_fail_67 : GoodIn u_s_X8_takeOpen (wsV RX8 67 RX10 yX10_fail u_s_X10_fail) := z_gV (z_gr _ [7, 8, 9, 10] rfl (by decide +kernel)) (fun w h => ⟨z_mc (z_mr (z_mr (z_mr (z_ml h)))), gd_s_X10_fail w h⟩)
set_option maxHeartbeats 4000000 in
set_option maxRecDepth 100000 in
theorem s_X8_takeOpen (l : Launch) (dC : Nat → ClassId) (dI : Nat → Nat → Nat) (sz : Nat) (h0 : Nat) (a_tp : Nat) (a_t1 : Nat) (a_t2 : Nat) (a_w1 : Nat) (uw : Int32) (uo : Int32) (up : Int32) (a_dr : Nat) (h0_8 : Value) (ca_w1 : ClassId) (fa_w1 : Nat → Int32) (a_tb : Nat) (tt : Int32) (ta : Int32) (tj : Int32) (tf : Int32) (ts : Int32) (te : Int32) (to : Int32) (tg : Int32) (tx : Int32) (ty : Int32) (ca_tb : ClassId) (fa_tb : Nat → Int32) (hB_tt : ((0 : Int) ≤ (tt).toInt ∧ (tt).toInt ≤ (700 : Int))) (hB_ta : ((0 : Int) ≤ (ta).toInt ∧ (ta).toInt ≤ (700 : Int))) (hB_tf : ((0 : Int) ≤ (tf).toInt ∧ (tf).toInt ≤ (700 : Int))) (hB_ts : ((0 : Int) ≤ (ts).toInt ∧ (ts).toInt ≤ (700 : Int))) (hB_te : ((0 : Int) ≤ (te).toInt ∧ (te).toInt ≤ (700 : Int))) (hB_uw : ((0 : Int) ≤ (uw).toInt ∧ (uw).toInt ≤ (104 : Int))) (hB_uo : ((0 : Int) ≤ (uo).toInt ∧ (uo).toInt ≤ (8 : Int))) (hB_up : ((0 : Int) ≤ (up).toInt ∧ (up).toInt ≤ (1 : Int))) (hI_a_tb : ∀ j : Nat, ((0 : Int) ≤ (fa_tb j).toInt ∧ (fa_tb j).toInt ≤ (255 : Int))) : Met l yX8_takeOpen u_s_X8_takeOpen ({ frames := 1, cells := 0, slots := 0, locals := 21 }) (va_Pc [.ref h0] (z_C (dC, dI) vwCl [(h0, .inr (8, [.ref a_tp, .ref a_t1, .ref a_t2, .ref a_w1, .int uw, .int uo, .int up, .ref a_dr, h0_8])), (a_w1, .inl (ca_w1, 104, .inl fa_w1)), (a_tp, .inr (10, [.ref a_tb, .int tt, .int ta, .int tj, .int tf, .int ts, .int te, .int to, .int tg, .int tx, .int ty])), (a_tb, .inl (ca_tb, 700, .inl fa_tb))] [(ca_w1, .int), (ca_tb, .int)] sz)) (va_Qi (fun (r : Int32) (_ : Unit) => ((0 : Int) ≤ (r).toInt ∧ (r).toInt ≤ (1 : Int))) (fun (_ : Unit) (t : State) => ∃ (n_h0_open : Int32), ∃ (n_h0_waits : Int32), ∃ (g_a_w1 : Nat → Int32), ∃ (n_a_tp_faultSort : Int32), ∃ (n_a_tp_faultPlace : Int32), ((0 : Int) ≤ (n_h0_open).toInt ∧ (n_h0_open).toInt ≤ (8 : Int)) ∧ ((0 : Int) ≤ (n_h0_waits).toInt ∧ (n_h0_waits).toInt ≤ (104 : Int)) ∧ va_P (dC, dI) vwCl [(h0, .inr (8, [.ref a_tp, .ref a_t1, .ref a_t2, .ref a_w1, .int n_h0_waits, .int n_h0_open, .int up, .ref a_dr, h0_8])), (a_w1, .inl (ca_w1, 104, .inl g_a_w1)), (a_tp, .inr (10, [.ref a_tb, .int tt, .int ta, .int tj, .int tf, .int ts, .int te, .int to, .int tg, .int n_a_tp_faultSort, .int n_a_tp_faultPlace])), (a_tb, .inl (ca_tb, 700, .inl fa_tb))] t.heap ∧ va_K (dC, dI) vwCl [] t ∧ va_D (va_A [(h0, .inr (8, [.ref a_tp, .ref a_t1, .ref a_t2, .ref a_w1, .int uw, .int uo, .int up, .ref a_dr, h0_8])), (a_w1, .inl (ca_w1, 104, .inl fa_w1)), (a_tp, .inr (10, [.ref a_tb, .int tt, .int ta, .int tj, .int tf, .int ts, .int te, .int to, .int tg, .int tx, .int ty])), (a_tb, .inl (ca_tb, 700, .inl fa_tb))] sz) [(h0, .inr (8, [.ref a_tp, .ref a_t1, .ref a_t2, .ref a_w1, .int n_h0_waits, .int n_h0_open, .int up, .ref a_dr, h0_8])), (a_w1, .inl (ca_w1, 104, .inl g_a_w1)), (a_tp, .inr (10, [.ref a_tb, .int tt, .int ta, .int tj, .int tf, .int ts, .int te, .int to, .int tg, .int n_a_tp_faultSort, .int n_a_tp_faultPlace])), (a_tb, .inl (ca_tb, 700, .inl fa_tb))]) (va_A [(h0, .inr (8, [.ref a_tp, .ref a_t1, .ref a_t2, .ref a_w1, .int uw, .int uo, .int up, .ref a_dr, h0_8])), (a_w1, .inl (ca_w1, 104, .inl fa_w1)), (a_tp, .inr (10, [.ref a_tb, .int tt, .int ta, .int tj, .int tf, .int ts, .int te, .int to, .int tg, .int tx, .int ty])), (a_tb, .inl (ca_tb, 700, .inl fa_tb))] sz)) 0 0 (va_A [(h0, .inr (8, [.ref a_tp, .ref a_t1, .ref a_t2, .ref a_w1, .int uw, .int uo, .int up, .ref a_dr, h0_8])), (a_w1, .inl (ca_w1, 104, .inl fa_w1)), (a_tp, .inr (10, [.ref a_tb, .int tt, .int ta, .int tj, .int tf, .int ts, .int te, .int to, .int tg, .int tx, .int ty])), (a_tb, .inl (ca_tb, 700, .inl fa_tb))] sz) := by
  refine Met.ofW (cc := cX8_takeOpen) (maxL := 1) (ret := (some .boolean)) (by decide) rfl ?_
  intro p e s m args below meth c s₁ B hml hv
  obtain ⟨rfl, hsz, hP, hK, hD0⟩ := hv
  have hx := B.exec
  have hb := B.bytes
  have hr := B.returns
  have hts := atoms_spec (ws := u_s_X8_takeOpen) B.pre
  have hown : s.vm.findClass RX8 = some m.cls := findClass_of_methodNamed B.named
  have hlocks := B.notSynchronized
  subst hsz
  have hD := hD0.self (sz := s.heap.size)
  generalize hAe : va_A [(h0, .inr (8, [.ref a_tp, .ref a_t1, .ref a_t2, .ref a_w1, .int uw, .int uo, .int up, .ref a_dr, h0_8])), (a_w1, .inl (ca_w1, 104, .inl fa_w1)), (a_tp, .inr (10, [.ref a_tb, .int tt, .int ta, .int tj, .int tf, .int ts, .int te, .int to, .int tg, .int tx, .int ty])), (a_tb, .inl (ca_tb, 700, .inl fa_tb))] s.heap.size = A at hD ⊢
  have hA : ∀ q : Nat, s.heap.size ≤ q → A q := fun q h => by rw [← hAe]; exact Or.inr h
  have hS : va_S A s.heap s.heap [] := va_S.rf
  have hP : va_P (dC, dI) vwCl [(h0, .inr (8, [.ref a_tp, .ref a_t1, .ref a_t2, .ref a_w1, .int uw, .int uo, .int up, .ref a_dr, h0_8])), (a_w1, .inl (ca_w1, 104, .inl fa_w1)), (a_tp, .inr (10, [.ref a_tb, .int tt, .int ta, .int tj, .int tf, .int ts, .int te, .int to, .int tg, .int tx, .int ty])), (a_tb, .inl (ca_tb, 700, .inl fa_tb))] s.heap := hP
  have w__fieldLink_RX8_27_ShellHeap_RulesReader_open_I_ := hts (.fieldLink RX8 27 "ShellHeap$RulesReader" "open" "I") (z_mc (z_ml z_m0))
  have hiX8 := show ∀ w ∈ u_ws RX8 TX8 9, w ∈ u_s_X8_takeOpen from fun w h => z_mc (z_mr (z_ml h))
  have w__fieldLink_RX8_42_ShellHeap_RulesReader_tape_LShellHeap_Tape_ := hts (.fieldLink RX8 42 "ShellHeap$RulesReader" "tape" "LShellHeap$Tape;") (z_mc (z_ml z_m5))
  have hl := lv_entry ([.ref h0]) (n := 1) (Nat.le_of_ble_eq_true rfl)
  rw [lg_entry_eq]
  generalize (lg_sl ([.ref h0]) ++ List.replicate (1 - (lg_sl ([.ref h0])).length) Slot.unset).toArray = ls at hl ⊢
  have hl : lv_has ls 1 [(0, .ref h0)] := hl
  refine lv_aload_n hx hb dX8_takeOpen_0 rfl (lv_at hl 0 rfl) ?_
  refine va_get (D := (dC, dI)) (ci := 8) (v := .int uo) (C := RX8) (T := TX8) (N := 9) hx hb hts hiX8 hown hK hP 0 rfl rfl 5 (by decide) w__fieldLink_RX8_27_ShellHeap_RulesReader_open_I_ (fun _ h9 => h9) rfl dX8_takeOpen_1 ?_
  refine lv_bipush (v := 8) hx hb dX8_takeOpen_4 (by decide) ?_
  refine lv_icmp_lt (tgt := 18) hx hb dX8_takeOpen_6 (by decide) (fun c_1 => ?_) (fun c_1 => ?_)
  · have k_2 : (uo).toInt < (8 : Int) := z_lt c_1
    refine lv_aload_n hx hb dX8_takeOpen_18 rfl (lv_at hl 0 rfl) ?_
    refine lv_dup hx hb dX8_takeOpen_19 rfl ?_
    refine va_get (D := (dC, dI)) (ci := 8) (v := .int uo) (C := RX8) (T := TX8) (N := 9) hx hb hts hiX8 hown hK hP 0 rfl rfl 5 (by decide) w__fieldLink_RX8_27_ShellHeap_RulesReader_open_I_ (fun _ h9 => h9) rfl dX8_takeOpen_20 ?_
    refine lv_iconst (v := 1) hx hb dX8_takeOpen_23 (by decide) ?_
    refine lv_iadd hx hb dX8_takeOpen_24 ?_
    refine lv_topi (fun z_3 ez_3 => ?_)
    have kz_3 : (z_3).toInt = (uo).toInt + (1 : Int) := by rw [ez_3]; exact z_add (a := (uo).toInt) (b := (1 : Int)) rfl rfl (z_al hB_uo.1 (by decide)) (z_ah hB_uo.2 (by decide))
    refine va_put (D := (dC, dI)) (ci := 8) (v := .int z_3) (ty := .int) (C := RX8) (T := TX8) (N := 9) hx hb hts hiX8 tyX8 tyX8_ok nmX8 hown hK hP hD hS 0 rfl rfl 5 (by decide) w__fieldLink_RX8_27_ShellHeap_RulesReader_open_I_ (fun _ h9 => h9) rfl (by decide +kernel) rfl rfl (Nat.le_of_ble_eq_true rfl) dX8_takeOpen_25 (fun H_4 locs hP hD hS => ?_)
    obtain ⟨hP, hD⟩ := z_s_0_5 hP hD
    refine lv_aload_n hx hb dX8_takeOpen_28 rfl (lv_at hl 0 rfl) ?_
    refine lv_iconst (v := 0) hx hb dX8_takeOpen_29 (by decide) ?_
    obtain ⟨hPc, hDc, hFc⟩ := z_sub3 (ws' := [(h0, .inr (8, [.ref a_tp, .ref a_t1, .ref a_t2, .ref a_w1, .int uw, .int z_3, .int up, .ref a_dr, h0_8])), (a_w1, .inl (ca_w1, 104, .inl fa_w1))]) hP hD hS hA [0, 1] (by decide) rfl
    have hKc := hK.sub (tys' := [(ca_w1, .int)]) [0] rfl
    refine va_callv (va_runV (As := [.int 0]) (rest := []) ⟨hx, hb, hml, hown, hts⟩ (s_X8_await l dC dI H_4.size h0 0 a_tp a_t1 a_t2 a_w1 uw z_3 up a_dr h0_8 ca_w1 fa_w1 hB_uw) (cwV 1 hts gw_s_X8_takeOpen_s_X8_await_139 rfl rfl rfl (by decide +kernel) ⟨Nat.le_of_ble_eq_true rfl, Nat.le_of_ble_eq_true rfl⟩) ⟨z_blind, va_recv hKc hPc (ci := 8) (q0 := 0) rfl rfl, z_pre hPc hKc hDc⟩ rfl rfl hl.1 rfl (lv_room (Nat.le_of_ble_eq_true rfl)) dX8_takeOpen_30 ⟨Nat.le_of_ble_eq_true rfl, Nat.le_of_ble_eq_true rfl⟩) hS (fun q _ h => hFc q h) hFc (fun u t H_5 locs ht hvm hw_7 hB hz1 hk1 hS => ?_)
    obtain ⟨n_h0_waits_8, g_a_w1_9, hp_10, hP1, hK1, hD1⟩ := hB
    rw [ht] at hP1
    have hK1 := va_K.moved hvm.symm hK1
    obtain ⟨hP, hD⟩ := z_ap_2 (va_join (wr := [(a_tp, .inr (10, [.ref a_tb, .int tt, .int ta, .int tj, .int tf, .int ts, .int te, .int to, .int tg, .int tx, .int ty])), (a_tb, .inl (ca_tb, 700, .inl fa_tb))]) hP hD [0, 1] [2, 3] rfl rfl (by decide) (by decide) hk1 hFc hP1 hD1)
    clear hPc hDc hKc
    refine lv_iconst (v := 1) hx hb dX8_takeOpen_33 (by decide) ?_
    obtain ⟨hP9, hD9⟩ := z_sub2 (ws' := [(h0, .inr (8, [.ref a_tp, .ref a_t1, .ref a_t2, .ref a_w1, .int n_h0_waits_8, .int z_3, .int up, .ref a_dr, h0_8])), (a_w1, .inl (ca_w1, 104, .inl g_a_w1_9)), (a_tp, .inr (10, [.ref a_tb, .int tt, .int ta, .int tj, .int tf, .int ts, .int te, .int to, .int tg, .int tx, .int ty])), (a_tb, .inl (ca_tb, 700, .inl fa_tb))]) hP hD [2, 3, 0, 1] (by decide) rfl
    have hK9 := hK.sub (tys' := []) [] rfl
    refine W.widen (k := 0) (n := 0) (Nat.le_of_ble_eq_true rfl) (Nat.le_of_ble_eq_true rfl) ?_
    exact W.zret (v := 1) hx hb hr (by rfl) (fun t ht hW => ⟨⟨1, (), rfl, (show ((0 : Int) ≤ (1 : Int) ∧ (1 : Int) ≤ (1 : Int)) by decide), ⟨z_3, n_h0_waits_8, g_a_w1_9, tx, ty, (by first | omega | decide), hp_10, by rw [ht]; exact hP9, va_K.moved hW.alike hK9, hD9⟩⟩, hS.F ht⟩) hS.2.2 dX8_takeOpen_34
  · have k_11 : (uo).toInt ≥ (8 : Int) := z_nlt c_1
    obtain rfl : uo = 8 := z_eq' (show (uo).toInt = (8 : Int) by omega)
    refine lv_aload_n hx hb dX8_takeOpen_9 rfl (lv_at hl 0 rfl) ?_
    refine va_get (D := (dC, dI)) (ci := 8) (v := .ref a_tp) (C := RX8) (T := TX8) (N := 9) hx hb hts hiX8 hown hK hP 0 rfl rfl 0 (by decide) w__fieldLink_RX8_42_ShellHeap_RulesReader_tape_LShellHeap_Tape_ (fun _ h9 => h9) rfl dX8_takeOpen_10 ?_
    refine lv_iconst (v := 2) hx hb dX8_takeOpen_13 (by decide) ?_
    obtain ⟨hPc, hDc, hFc⟩ := z_sub3 (ws' := [(a_tp, .inr (10, [.ref a_tb, .int tt, .int ta, .int tj, .int tf, .int ts, .int te, .int to, .int tg, .int tx, .int ty]))]) hP hD hS hA [2] (by decide) rfl
    have hKc := hK.sub (tys' := []) [] rfl
    refine va_calli (va_runV (As := [.int 2]) (rest := []) ⟨hx, hb, hml, hown, hts⟩ (s_X10_fail l dC dI s.heap.size a_tp 2 (.ref a_tb) (.int tt) (.int ta) (.int tj) (.int tf) ts (.int te) (.int to) (.int tg) tx ty hB_ts) (cwV 1 hts gw_s_X8_takeOpen_s_X10_fail_67 rfl rfl rfl (by decide +kernel) ⟨Nat.le_of_ble_eq_true rfl, Nat.le_of_ble_eq_true rfl⟩) ⟨z_blind, va_recv hKc hPc (ci := 10) (q0 := 0) rfl rfl, z_pre hPc hKc hDc⟩ rfl rfl hl.1 rfl (lv_room (Nat.le_of_ble_eq_true rfl)) dX8_takeOpen_14 ⟨Nat.le_of_ble_eq_true rfl, Nat.le_of_ble_eq_true rfl⟩) hS (fun q _ h => hFc q h) hFc (fun r_14 u t H_13 locs ht hvm hw_15 hB hz1 hk1 hS => ?_)
    obtain ⟨n_h0_faultSort_16, n_h0_faultPlace_17, hP1, hK1, hD1⟩ := hB
    rw [ht] at hP1
    have hK1 := va_K.moved hvm.symm hK1
    obtain ⟨hP, hD⟩ := z_ap_3 (va_join (wr := [(h0, .inr (8, [.ref a_tp, .ref a_t1, .ref a_t2, .ref a_w1, .int uw, .int 8, .int up, .ref a_dr, h0_8])), (a_w1, .inl (ca_w1, 104, .inl fa_w1)), (a_tb, .inl (ca_tb, 700, .inl fa_tb))]) hP hD [2] [0, 1, 3] rfl rfl (by decide) (by decide) hk1 hFc hP1 hD1)
    clear hPc hDc hKc
    obtain rfl : r_14 = 0 := hw_15
    obtain ⟨hP9, hD9⟩ := z_sub2 (ws' := [(h0, .inr (8, [.ref a_tp, .ref a_t1, .ref a_t2, .ref a_w1, .int uw, .int 8, .int up, .ref a_dr, h0_8])), (a_w1, .inl (ca_w1, 104, .inl fa_w1)), (a_tp, .inr (10, [.ref a_tb, .int tt, .int ta, .int tj, .int tf, .int ts, .int te, .int to, .int tg, .int n_h0_faultSort_16, .int n_h0_faultPlace_17])), (a_tb, .inl (ca_tb, 700, .inl fa_tb))]) hP hD [0, 1, 3, 2] (by decide) rfl
    have hK9 := hK.sub (tys' := []) [] rfl
    refine W.widen (k := 0) (n := 0) (Nat.le_of_ble_eq_true rfl) (Nat.le_of_ble_eq_true rfl) ?_
    exact W.zret (v := 0) hx hb hr (by rfl) (fun t ht hW => ⟨⟨0, (), rfl, (show ((0 : Int) ≤ (0 : Int) ∧ (0 : Int) ≤ (1 : Int)) by decide), ⟨8, uw, fa_w1, n_h0_faultSort_16, n_h0_faultPlace_17, (by decide), hB_uw, by rw [ht]; exact hP9, va_K.moved hW.alike hK9, hD9⟩⟩, hS.F ht⟩) hS.2.2 dX8_takeOpen_17
def u_s_X8_takeNumber : List Cond := .code yX8_takeNumber cX8_takeNumber 2 (some .boolean) :: ([.fieldLink RX8 42 "ShellHeap$RulesReader" "tape" "LShellHeap$Tape;", .fieldLink RX8 92 "ShellHeap$Tape" "start" "I", .methodLink RX8 142 yX10_numberFrom, .instanceMethod yX10_numberFrom, .selects RX10 yX10_numberFrom yX10_numberFrom, .initialized RX10, .constant RX8 145 (99999), .methodLink RX8 133 yX8_tieKnot, .instanceMethod yX8_tieKnot, .selects RX8 yX8_tieKnot yX8_tieKnot, .initialized RX8, .fieldLink RX8 35 "ShellHeap$RulesReader" "draft" "LShellHeap$Rules;", .methodLink RX8 146 yX7_add, .instanceMethod yX7_add, .selects RX7 yX7_add yX7_add, .initialized RX7, .fieldLink RX8 30 "ShellHeap$RulesReader" "wantsPart" "Z", .methodLink RX8 67 yX10_fail, .instanceMethod yX10_fail, .selects RX10 yX10_fail yX10_fail] ++ (wsX80 ++ (wsX100 ++ (u_s_X10_numberFrom ++ (u_s_X8_tieKnot ++ (u_s_X7_add ++ (u_s_X10_fail ++ [])))))))
theorem gd_s_X8_takeNumber : z_gd u_s_X8_takeNumber := z_gdc (by decide +kernel) (z_gda gdX8 (z_gda gdX10 (z_gda gd_s_X10_numberFrom (z_gda gd_s_X8_tieKnot (z_gda gd_s_X7_add (z_gda gd_s_X10_fail (z_gd0)))))))
set_option maxRecDepth 20000 in
theorem gw_s_X8_takeNumber_s_X10_numberFrom_142 : GoodIn u_s_X8_takeNumber (wsV RX8 142 RX10 yX10_numberFrom u_s_X10_numberFrom) := z_gV (z_gr _ [3, 4, 5, 6] rfl (by decide +kernel)) (fun w h => ⟨z_mc (z_mr (z_mr (z_mr (z_ml h)))), gd_s_X10_numberFrom w h⟩)
set_option maxRecDepth 20000 in
theorem gw_s_X8_takeNumber_s_X8_tieKnot_133 : GoodIn u_s_X8_takeNumber (wsV RX8 133 RX8 yX8_tieKnot u_s_X8_tieKnot) := z_gV (z_gr _ [8, 9, 10, 11] rfl (by decide +kernel)) (fun w h => ⟨z_mc (z_mr (z_mr (z_mr (z_mr (z_ml h))))), gd_s_X8_tieKnot w h⟩)
set_option maxRecDepth 20000 in
theorem gw_s_X8_takeNumber_s_X7_add_146 : GoodIn u_s_X8_takeNumber (wsV RX8 146 RX7 yX7_add u_s_X7_add) := z_gV (z_gr _ [13, 14, 15, 16] rfl (by decide +kernel)) (fun w h => ⟨z_mc (z_mr (z_mr (z_mr (z_mr (z_mr (z_ml h)))))), gd_s_X7_add w h⟩)
set_option maxRecDepth 20000 in
theorem gw_s_X8_takeNumber_s_X10_fail_67 : GoodIn u_s_X8_takeNumber (wsV RX8 67 RX10 yX10_fail u_s_X10_fail) := z_gV (z_gr _ [18, 19, 20, 6] rfl (by decide +kernel)) (fun w h => ⟨z_mc (z_mr (z_mr (z_mr (z_mr (z_mr (z_mr (z_ml h))))))), gd_s_X10_fail w h⟩)
set_option maxHeartbeats 4000000 in
set_option maxRecDepth 100000 in
theorem s_X8_takeNumber (l : Launch) (dC : Nat → ClassId) (dI : Nat → Nat → Nat) (sz : Nat) (h0 : Nat) (a_tp : Nat) (a_t1 : Nat) (a_t2 : Nat) (a_w1 : Nat) (uw : Int32) (uo : Int32) (up : Int32) (a_dr : Nat) (h0_8 : Value) (a_tb : Nat) (tt : Int32) (ta : Int32) (tj : Int32) (tf : Int32) (ts : Int32) (te : Int32) (to : Int32) (tg : Int32) (tx : Int32) (ty : Int32) (ca_tb : ClassId) (fa_tb : Nat → Int32) (a_d1 : Nat) (a_d2 : Nat) (a_d3 : Nat) (rl : Int32) (rc : Int32) (rk : Int32) (ca_d1 : ClassId) (fa_d1 : Nat → Int32) (ca_d2 : ClassId) (fa_d2 : Nat → Int32) (ca_d3 : ClassId) (fa_d3 : Nat → Int32) (hB_tt : ((0 : Int) ≤ (tt).toInt ∧ (tt).toInt ≤ (700 : Int))) (hB_ta : ((0 : Int) ≤ (ta).toInt ∧ (ta).toInt ≤ (700 : Int))) (hB_tf : ((0 : Int) ≤ (tf).toInt ∧ (tf).toInt ≤ (700 : Int))) (hB_ts : ((0 : Int) ≤ (ts).toInt ∧ (ts).toInt ≤ (700 : Int))) (hB_te : ((0 : Int) ≤ (te).toInt ∧ (te).toInt ≤ (700 : Int))) (hB_uw : ((0 : Int) ≤ (uw).toInt ∧ (uw).toInt ≤ (104 : Int))) (hB_uo : ((0 : Int) ≤ (uo).toInt ∧ (uo).toInt ≤ (8 : Int))) (hB_up : ((0 : Int) ≤ (up).toInt ∧ (up).toInt ≤ (1 : Int))) (hB_rl : ((0 : Int) ≤ (rl).toInt ∧ (rl).toInt ≤ (96 : Int))) (hB_rc : ((0 : Int) ≤ (rc).toInt ∧ (rc).toInt ≤ (6 : Int))) (hB_rk : ((0 : Int) ≤ (rk).toInt ∧ (rk).toInt ≤ (96 : Int))) (hI_a_tb : ∀ j : Nat, ((0 : Int) ≤ (fa_tb j).toInt ∧ (fa_tb j).toInt ≤ (255 : Int))) (hI_a_d3 : ∀ j : Nat, ((0 : Int) ≤ (fa_d3 j).toInt ∧ (fa_d3 j).toInt ≤ (96 : Int))) : Met l yX8_takeNumber u_s_X8_takeNumber ({ frames := 2, cells := 0, slots := 0, locals := 44 }) (va_Pc [.ref h0] (z_C (dC, dI) vwCl [(h0, .inr (8, [.ref a_tp, .ref a_t1, .ref a_t2, .ref a_w1, .int uw, .int uo, .int up, .ref a_dr, h0_8])), (a_tp, .inr (10, [.ref a_tb, .int tt, .int ta, .int tj, .int tf, .int ts, .int te, .int to, .int tg, .int tx, .int ty])), (a_tb, .inl (ca_tb, 700, .inl fa_tb)), (a_dr, .inr (7, [.ref a_d1, .ref a_d2, .ref a_d3, .int rl, .int rc, .int rk])), (a_d1, .inl (ca_d1, 96, .inl fa_d1)), (a_d2, .inl (ca_d2, 96, .inl fa_d2)), (a_d3, .inl (ca_d3, 7, .inl fa_d3))] [(ca_tb, .int), (ca_d1, .int), (ca_d2, .int), (ca_d3, .int)] sz)) (va_Qi (fun (r : Int32) (_ : Unit) => ((0 : Int) ≤ (r).toInt ∧ (r).toInt ≤ (1 : Int))) (fun (_ : Unit) (t : State) => ∃ (n_h0_wantsPart : Int32), ∃ (n_a_tp_faultSort : Int32), ∃ (n_a_tp_faultPlace : Int32), ∃ (n_a_dr_length : Int32), ∃ (n_a_dr_knots : Int32), ∃ (g_a_d1 : Nat → Int32), ∃ (g_a_d2 : Nat → Int32), ((0 : Int) ≤ (n_h0_wantsPart).toInt ∧ (n_h0_wantsPart).toInt ≤ (1 : Int)) ∧ ((0 : Int) ≤ (n_a_dr_length).toInt ∧ (n_a_dr_length).toInt ≤ (96 : Int)) ∧ ((0 : Int) ≤ (n_a_dr_knots).toInt ∧ (n_a_dr_knots).toInt ≤ (96 : Int)) ∧ va_P (dC, dI) vwCl [(h0, .inr (8, [.ref a_tp, .ref a_t1, .ref a_t2, .ref a_w1, .int uw, .int uo, .int n_h0_wantsPart, .ref a_dr, h0_8])), (a_tp, .inr (10, [.ref a_tb, .int tt, .int ta, .int tj, .int tf, .int ts, .int te, .int to, .int tg, .int n_a_tp_faultSort, .int n_a_tp_faultPlace])), (a_tb, .inl (ca_tb, 700, .inl fa_tb)), (a_dr, .inr (7, [.ref a_d1, .ref a_d2, .ref a_d3, .int n_a_dr_length, .int rc, .int n_a_dr_knots])), (a_d1, .inl (ca_d1, 96, .inl g_a_d1)), (a_d2, .inl (ca_d2, 96, .inl g_a_d2)), (a_d3, .inl (ca_d3, 7, .inl fa_d3))] t.heap ∧ va_K (dC, dI) vwCl [] t ∧ va_D (va_A [(h0, .inr (8, [.ref a_tp, .ref a_t1, .ref a_t2, .ref a_w1, .int uw, .int uo, .int up, .ref a_dr, h0_8])), (a_tp, .inr (10, [.ref a_tb, .int tt, .int ta, .int tj, .int tf, .int ts, .int te, .int to, .int tg, .int tx, .int ty])), (a_tb, .inl (ca_tb, 700, .inl fa_tb)), (a_dr, .inr (7, [.ref a_d1, .ref a_d2, .ref a_d3, .int rl, .int rc, .int rk])), (a_d1, .inl (ca_d1, 96, .inl fa_d1)), (a_d2, .inl (ca_d2, 96, .inl fa_d2)), (a_d3, .inl (ca_d3, 7, .inl fa_d3))] sz) [(h0, .inr (8, [.ref a_tp, .ref a_t1, .ref a_t2, .ref a_w1, .int uw, .int uo, .int n_h0_wantsPart, .ref a_dr, h0_8])), (a_tp, .inr (10, [.ref a_tb, .int tt, .int ta, .int tj, .int tf, .int ts, .int te, .int to, .int tg, .int n_a_tp_faultSort, .int n_a_tp_faultPlace])), (a_tb, .inl (ca_tb, 700, .inl fa_tb)), (a_dr, .inr (7, [.ref a_d1, .ref a_d2, .ref a_d3, .int n_a_dr_length, .int rc, .int n_a_dr_knots])), (a_d1, .inl (ca_d1, 96, .inl g_a_d1)), (a_d2, .inl (ca_d2, 96, .inl g_a_d2)), (a_d3, .inl (ca_d3, 7, .inl fa_d3))]) (va_A [(h0, .inr (8, [.ref a_tp, .ref a_t1, .ref a_t2, .ref a_w1, .int uw, .int uo, .int up, .ref a_dr, h0_8])), (a_tp, .inr (10, [.ref a_tb, .int tt, .int ta, .int tj, .int tf, .int ts, .int te, .int to, .int tg, .int tx, .int ty])), (a_tb, .inl (ca_tb, 700, .inl fa_tb)), (a_dr, .inr (7, [.ref a_d1, .ref a_d2, .ref a_d3, .int rl, .int rc, .int rk])), (a_d1, .inl (ca_d1, 96, .inl fa_d1)), (a_d2, .inl (ca_d2, 96, .inl fa_d2)), (a_d3, .inl (ca_d3, 7, .inl fa_d3))] sz)) 0 0 (va_A [(h0, .inr (8, [.ref a_tp, .ref a_t1, .ref a_t2, .ref a_w1, .int uw, .int uo, .int up, .ref a_dr, h0_8])), (a_tp, .inr (10, [.ref a_tb, .int tt, .int ta, .int tj, .int tf, .int ts, .int te, .int to, .int tg, .int tx, .int ty])), (a_tb, .inl (ca_tb, 700, .inl fa_tb)), (a_dr, .inr (7, [.ref a_d1, .ref a_d2, .ref a_d3, .int rl, .int rc, .int rk])), (a_d1, .inl (ca_d1, 96, .inl fa_d1)), (a_d2, .inl (ca_d2, 96, .inl fa_d2)), (a_d3, .inl (ca_d3, 7, .inl fa_d3))] sz) := by
  refine Met.ofW (cc := cX8_takeNumber) (maxL := 2) (ret := (some .boolean)) (by decide) rfl ?_
  intro p e s m args below meth c s₁ B hml hv
  obtain ⟨rfl, hsz, hP, hK, hD0⟩ := hv
  have hx := B.exec
  have hb := B.bytes
  have hr := B.returns
  have hts := atoms_spec (ws := u_s_X8_takeNumber) B.pre
  have hown : s.vm.findClass RX8 = some m.cls := findClass_of_methodNamed B.named
  have hlocks := B.notSynchronized
  subst hsz
  have hD := hD0.self (sz := s.heap.size)
  generalize hAe : va_A [(h0, .inr (8, [.ref a_tp, .ref a_t1, .ref a_t2, .ref a_w1, .int uw, .int uo, .int up, .ref a_dr, h0_8])), (a_tp, .inr (10, [.ref a_tb, .int tt, .int ta, .int tj, .int tf, .int ts, .int te, .int to, .int tg, .int tx, .int ty])), (a_tb, .inl (ca_tb, 700, .inl fa_tb)), (a_dr, .inr (7, [.ref a_d1, .ref a_d2, .ref a_d3, .int rl, .int rc, .int rk])), (a_d1, .inl (ca_d1, 96, .inl fa_d1)), (a_d2, .inl (ca_d2, 96, .inl fa_d2)), (a_d3, .inl (ca_d3, 7, .inl fa_d3))] s.heap.size = A at hD ⊢
  have hA : ∀ q : Nat, s.heap.size ≤ q → A q := fun q h => by rw [← hAe]; exact Or.inr h
  have hS : va_S A s.heap s.heap [] := va_S.rf
  have hP : va_P (dC, dI) vwCl [(h0, .inr (8, [.ref a_tp, .ref a_t1, .ref a_t2, .ref a_w1, .int uw, .int uo, .int up, .ref a_dr, h0_8])), (a_tp, .inr (10, [.ref a_tb, .int tt, .int ta, .int tj, .int tf, .int ts, .int te, .int to, .int tg, .int tx, .int ty])), (a_tb, .inl (ca_tb, 700, .inl fa_tb)), (a_dr, .inr (7, [.ref a_d1, .ref a_d2, .ref a_d3, .int rl, .int rc, .int rk])), (a_d1, .inl (ca_d1, 96, .inl fa_d1)), (a_d2, .inl (ca_d2, 96, .inl fa_d2)), (a_d3, .inl (ca_d3, 7, .inl fa_d3))] s.heap := hP
  have w__fieldLink_RX8_42_ShellHeap_RulesReader_tape_LShellHeap_Tape_ := hts (.fieldLink RX8 42 "ShellHeap$RulesReader" "tape" "LShellHeap$Tape;") (z_mc (z_ml z_m0))
  have hiX8 := show ∀ w ∈ u_ws RX8 TX8 9, w ∈ u_s_X8_takeNumber from fun w h => z_mc (z_mr (z_ml h))
  have w__fieldLink_RX8_92_ShellHeap_Tape_start_I_ := hts (.fieldLink RX8 92 "ShellHeap$Tape" "start" "I") (z_mc (z_ml z_m1))
  have hiX10 := show ∀ w ∈ u_ws RX10 TX10 11, w ∈ u_s_X8_takeNumber from fun w h => z_mc (z_mr (z_mr (z_ml h)))
  have w__constant_RX8_145_99999_ := hts (.constant RX8 145 (99999)) (z_mc (z_ml z_m6))
  have w__fieldLink_RX8_35_ShellHeap_RulesReader_draft_LShellHeap_Rules_ := hts (.fieldLink RX8 35 "ShellHeap$RulesReader" "draft" "LShellHeap$Rules;") (z_mc (z_ml z_m11))
  have w__fieldLink_RX8_30_ShellHeap_RulesReader_wantsPart_Z_ := hts (.fieldLink RX8 30 "ShellHeap$RulesReader" "wantsPart" "Z") (z_mc (z_ml z_m16))
  have hl := lv_entry ([.ref h0]) (n := 2) (Nat.le_of_ble_eq_true rfl)
  rw [lg_entry_eq]
  generalize (lg_sl ([.ref h0]) ++ List.replicate (2 - (lg_sl ([.ref h0])).length) Slot.unset).toArray = ls at hl ⊢
  have hl : lv_has ls 2 [(0, .ref h0)] := hl
  refine lv_aload_n hx hb dX8_takeNumber_0 rfl (lv_at hl 0 rfl) ?_
  refine va_get (D := (dC, dI)) (ci := 8) (v := .ref a_tp) (C := RX8) (T := TX8) (N := 9) hx hb hts hiX8 hown hK hP 0 rfl rfl 0 (by decide) w__fieldLink_RX8_42_ShellHeap_RulesReader_tape_LShellHeap_Tape_ (fun _ h9 => h9) rfl dX8_takeNumber_1 ?_
  refine lv_aload_n hx hb dX8_takeNumber_4 rfl (lv_at hl 0 rfl) ?_
  refine va_get (D := (dC, dI)) (ci := 8) (v := .ref a_tp) (C := RX8) (T := TX8) (N := 9) hx hb hts hiX8 hown hK hP 0 rfl rfl 0 (by decide) w__fieldLink_RX8_42_ShellHeap_RulesReader_tape_LShellHeap_Tape_ (fun _ h9 => h9) rfl dX8_takeNumber_5 ?_
  refine va_get (D := (dC, dI)) (ci := 10) (v := .int ts) (C := RX10) (T := TX10) (N := 11) hx hb hts hiX10 hown hK hP 1 rfl rfl 5 (by decide) w__fieldLink_RX8_92_ShellHeap_Tape_start_I_ (fun _ h9 => h9) rfl dX8_takeNumber_8 ?_
  obtain ⟨hPc, hDc⟩ := z_sub2 (ws' := [(a_tp, .inr (10, [.ref a_tb, .int tt, .int ta, .int tj, .int tf, .int ts, .int te, .int to, .int tg, .int tx, .int ty])), (a_tb, .inl (ca_tb, 700, .inl fa_tb))]) hP hD [1, 2] (by decide) rfl
  have hKc := hK.sub (tys' := [(ca_tb, .int)]) [0] rfl
  have hFc := va_free (ws := []) (wc := []) (z_D0 _) hS hA [] rfl
  refine va_calli (va_runV (As := [.int ts]) (rest := []) ⟨hx, hb, hml, hown, hts⟩ (s_X10_numberFrom l dC dI s.heap.size a_tp ts a_tb tt (.int ta) (.int tj) (.int tf) (.int ts) te (.int to) (.int tg) (.int tx) (.int ty) ca_tb fa_tb hB_tt hB_te (z_bw hB_ts (by decide) (by decide)) hI_a_tb) (cwV 1 hts gw_s_X8_takeNumber_s_X10_numberFrom_142 rfl rfl rfl (by decide +kernel) ⟨Nat.le_of_ble_eq_true rfl, Nat.le_of_ble_eq_true rfl⟩) ⟨z_blind, va_recv hKc hPc (ci := 10) (q0 := 0) rfl rfl, z_pre hPc hKc hDc⟩ rfl rfl hl.1 rfl (lv_room (Nat.le_of_ble_eq_true rfl)) dX8_takeNumber_11 ⟨Nat.le_of_ble_eq_true rfl, Nat.le_of_ble_eq_true rfl⟩) hS (fun q _ h => hFc q h) hFc (fun r_2 u t H_1 locs ht hvm hw_3 hB hz1 hk1 hS => ?_)
  replace hP := z_pure hP hk1
  clear hPc hDc hKc
  refine lv_istore_n (lv' := [(1, .int r_2), (0, .ref h0)]) hx hb dX8_takeNumber_14 rfl hl (by decide) rfl (fun ls hl => ?_)
  refine lv_iload_n hx hb dX8_takeNumber_15 rfl (lv_at hl 0 rfl) ?_
  refine lv_ldc (v := 99999) hx hb hown w__constant_RX8_145_99999_ dX8_takeNumber_16 ?_
  refine lv_icmp_le (tgt := 30) hx hb dX8_takeNumber_18 (by decide) (fun c_4 => ?_) (fun c_4 => ?_)
  · have k_5 : (r_2).toInt ≤ (99999 : Int) := z_le c_4
    refine lv_aload_n hx hb dX8_takeNumber_30 rfl (lv_at hl 1 rfl) ?_
    obtain ⟨hPc, hDc, hFc⟩ := z_sub3 (ws' := [(h0, .inr (8, [.ref a_tp, .ref a_t1, .ref a_t2, .ref a_w1, .int uw, .int uo, .int up, .ref a_dr, h0_8])), (a_tp, .inr (10, [.ref a_tb, .int tt, .int ta, .int tj, .int tf, .int ts, .int te, .int to, .int tg, .int tx, .int ty])), (a_tb, .inl (ca_tb, 700, .inl fa_tb)), (a_dr, .inr (7, [.ref a_d1, .ref a_d2, .ref a_d3, .int rl, .int rc, .int rk]))]) hP hD hS hA [0, 1, 2, 3] (by decide) rfl
    have hKc := hK.sub (tys' := [(ca_tb, .int)]) [0] rfl
    refine va_calli (va_runV (As := []) (rest := []) ⟨hx, hb, hml, hown, hts⟩ (s_X8_tieKnot l dC dI H_1.size h0 a_tp a_t1 a_t2 a_w1 uw uo up a_dr h0_8 a_tb tt ta tj tf ts te to tg tx ty ca_tb fa_tb a_d1 a_d2 a_d3 rl rc rk hB_tt hB_ta hB_tf hB_ts hB_te hB_uw hB_uo hB_up hB_rl hB_rc hB_rk hI_a_tb) (cwV 0 hts gw_s_X8_takeNumber_s_X8_tieKnot_133 rfl rfl rfl (by decide +kernel) ⟨Nat.le_of_ble_eq_true rfl, Nat.le_of_ble_eq_true rfl⟩) ⟨z_blind, va_recv hKc hPc (ci := 8) (q0 := 0) rfl rfl, z_pre hPc hKc hDc⟩ rfl rfl hl.1 rfl (lv_room (Nat.le_of_ble_eq_true rfl)) dX8_takeNumber_31 ⟨Nat.le_of_ble_eq_true rfl, Nat.le_of_ble_eq_true rfl⟩) hS (fun q _ h => hFc q h) hFc (fun r_7 u t H_6 locs ht hvm hw_8 hB hz1 hk1 hS => ?_)
    obtain ⟨n_a_tp_faultSort_9, n_a_tp_faultPlace_10, n_a_dr_knots_11, hp_12, hP1, hK1, hD1⟩ := hB
    rw [ht] at hP1
    have hK1 := va_K.moved hvm.symm hK1
    obtain ⟨hP, hD⟩ := z_ap_3 (va_join (wr := [(a_d1, .inl (ca_d1, 96, .inl fa_d1)), (a_d2, .inl (ca_d2, 96, .inl fa_d2)), (a_d3, .inl (ca_d3, 7, .inl fa_d3))]) hP hD [0, 1, 2, 3] [4, 5, 6] rfl rfl (by decide) (by decide) hk1 hFc hP1 hD1)
    clear hPc hDc hKc
    refine lv_if_ne (tgt := 39) hx hb dX8_takeNumber_34 (by decide) (fun c_13 => ?_) (fun c_13 => ?_)
    · have k_14 : (r_7).toInt ≠ (0 : Int) := z_ne c_13
      obtain rfl : r_7 = 1 := z_eq' (show (r_7).toInt = (1 : Int) by omega)
      refine lv_aload_n hx hb dX8_takeNumber_39 rfl (lv_at hl 1 rfl) ?_
      refine va_get (D := (dC, dI)) (ci := 8) (v := .ref a_dr) (C := RX8) (T := TX8) (N := 9) hx hb hts hiX8 hown hK hP 3 rfl rfl 7 (by decide) w__fieldLink_RX8_35_ShellHeap_RulesReader_draft_LShellHeap_Rules_ (fun _ h9 => h9) rfl dX8_takeNumber_40 ?_
      refine lv_iconst (v := 1) hx hb dX8_takeNumber_43 (by decide) ?_
      refine lv_iload_n hx hb dX8_takeNumber_44 rfl (lv_at hl 0 rfl) ?_
      obtain ⟨hPc, hDc, hFc⟩ := z_sub3 (ws' := [(a_dr, .inr (7, [.ref a_d1, .ref a_d2, .ref a_d3, .int rl, .int rc, .int n_a_dr_knots_11])), (a_d1, .inl (ca_d1, 96, .inl fa_d1)), (a_d2, .inl (ca_d2, 96, .inl fa_d2))]) hP hD hS hA [6, 0, 1] (by decide) rfl
      have hKc := hK.sub (tys' := [(ca_d1, .int), (ca_d2, .int)]) [1, 2] rfl
      refine va_callv (va_runV (As := [.int 1, .int r_2]) (rest := []) ⟨hx, hb, hml, hown, hts⟩ (s_X7_add l dC dI H_6.size a_dr 1 r_2 a_d1 a_d2 (.ref a_d3) rl (.int rc) (.int n_a_dr_knots_11) ca_d1 fa_d1 ca_d2 fa_d2 hB_rl) (cwV 2 hts gw_s_X8_takeNumber_s_X7_add_146 rfl rfl rfl (by decide +kernel) ⟨Nat.le_of_ble_eq_true rfl, Nat.le_of_ble_eq_true rfl⟩) ⟨z_blind, va_recv hKc hPc (ci := 7) (q0 := 0) rfl rfl, z_pre hPc hKc hDc⟩ rfl rfl hl.1 rfl (lv_room (Nat.le_of_ble_eq_true rfl)) dX8_takeNumber_45 ⟨Nat.le_of_ble_eq_true rfl, Nat.le_of_ble_eq_true rfl⟩) hS (fun q _ h => hFc q h) hFc (fun u t H_16 locs ht hvm hw_18 hB hz1 hk1 hS => ?_)
      obtain ⟨n_h0_length_19, g_h1_20, g_h2_21, hp_22, hP1, hK1, hD1⟩ := hB
      rw [ht] at hP1
      have hK1 := va_K.moved hvm.symm hK1
      obtain ⟨hP, hD⟩ := z_ap_4 (va_join (wr := [(a_d3, .inl (ca_d3, 7, .inl fa_d3)), (h0, .inr (8, [.ref a_tp, .ref a_t1, .ref a_t2, .ref a_w1, .int uw, .int uo, .int up, .ref a_dr, h0_8])), (a_tp, .inr (10, [.ref a_tb, .int tt, .int ta, .int tj, .int tf, .int ts, .int te, .int to, .int tg, .int n_a_tp_faultSort_9, .int n_a_tp_faultPlace_10])), (a_tb, .inl (ca_tb, 700, .inl fa_tb))]) hP hD [6, 0, 1] [2, 3, 4, 5] rfl rfl (by decide) (by decide) hk1 hFc hP1 hD1)
      clear hPc hDc hKc
      refine lv_aload_n hx hb dX8_takeNumber_48 rfl (lv_at hl 1 rfl) ?_
      refine lv_iconst (v := 0) hx hb dX8_takeNumber_49 (by decide) ?_
      refine va_put (D := (dC, dI)) (ci := 8) (v := .int 0) (ty := .boolean) (C := RX8) (T := TX8) (N := 9) hx hb hts hiX8 tyX8 tyX8_ok nmX8 hown hK hP hD hS 1 rfl rfl 6 (by decide) w__fieldLink_RX8_30_ShellHeap_RulesReader_wantsPart_Z_ (fun _ h9 => h9) rfl (by decide +kernel) rfl rfl (Nat.le_of_ble_eq_true rfl) dX8_takeNumber_50 (fun H_23 locs hP hD hS => ?_)
      obtain ⟨hP, hD⟩ := z_s_1_6 hP hD
      refine lv_iconst (v := 1) hx hb dX8_takeNumber_53 (by decide) ?_
      obtain ⟨hP9, hD9⟩ := z_sub2 (ws' := [(h0, .inr (8, [.ref a_tp, .ref a_t1, .ref a_t2, .ref a_w1, .int uw, .int uo, .int 0, .ref a_dr, h0_8])), (a_tp, .inr (10, [.ref a_tb, .int tt, .int ta, .int tj, .int tf, .int ts, .int te, .int to, .int tg, .int n_a_tp_faultSort_9, .int n_a_tp_faultPlace_10])), (a_tb, .inl (ca_tb, 700, .inl fa_tb)), (a_dr, .inr (7, [.ref a_d1, .ref a_d2, .ref a_d3, .int n_h0_length_19, .int rc, .int n_a_dr_knots_11])), (a_d1, .inl (ca_d1, 96, .inl g_h1_20)), (a_d2, .inl (ca_d2, 96, .inl g_h2_21)), (a_d3, .inl (ca_d3, 7, .inl fa_d3))]) hP hD [1, 2, 3, 4, 5, 6, 0] (by decide) rfl
      have hK9 := hK.sub (tys' := []) [] rfl
      refine W.widen (k := 0) (n := 0) (Nat.le_of_ble_eq_true rfl) (Nat.le_of_ble_eq_true rfl) ?_
      exact W.zret (v := 1) hx hb hr (by rfl) (fun t ht hW => ⟨⟨1, (), rfl, (show ((0 : Int) ≤ (1 : Int) ∧ (1 : Int) ≤ (1 : Int)) by decide), ⟨0, n_a_tp_faultSort_9, n_a_tp_faultPlace_10, n_h0_length_19, n_a_dr_knots_11, g_h1_20, g_h2_21, (by decide), hp_22, hp_12, by rw [ht]; exact hP9, va_K.moved hW.alike hK9, hD9⟩⟩, hS.F ht⟩) hS.2.2 dX8_takeNumber_54
    · have k_24 : (r_7).toInt = (0 : Int) := z_eq c_13
      obtain rfl : r_7 = 0 := z_eq' (show (r_7).toInt = (0 : Int) by omega)
      refine lv_iconst (v := 0) hx hb dX8_takeNumber_37 (by decide) ?_
      obtain ⟨hP9, hD9⟩ := z_sub2 (ws' := [(h0, .inr (8, [.ref a_tp, .ref a_t1, .ref a_t2, .ref a_w1, .int uw, .int uo, .int up, .ref a_dr, h0_8])), (a_tp, .inr (10, [.ref a_tb, .int tt, .int ta, .int tj, .int tf, .int ts, .int te, .int to, .int tg, .int n_a_tp_faultSort_9, .int n_a_tp_faultPlace_10])), (a_tb, .inl (ca_tb, 700, .inl fa_tb)), (a_dr, .inr (7, [.ref a_d1, .ref a_d2, .ref a_d3, .int rl, .int rc, .int n_a_dr_knots_11])), (a_d1, .inl (ca_d1, 96, .inl fa_d1)), (a_d2, .inl (ca_d2, 96, .inl fa_d2)), (a_d3, .inl (ca_d3, 7, .inl fa_d3))]) hP hD [3, 4, 5, 6, 0, 1, 2] (by decide) rfl
      have hK9 := hK.sub (tys' := []) [] rfl
      refine W.widen (k := 0) (n := 0) (Nat.le_of_ble_eq_true rfl) (Nat.le_of_ble_eq_true rfl) ?_
      exact W.zret (v := 0) hx hb hr (by rfl) (fun t ht hW => ⟨⟨0, (), rfl, (show ((0 : Int) ≤ (0 : Int) ∧ (0 : Int) ≤ (1 : Int)) by decide), ⟨up, n_a_tp_faultSort_9, n_a_tp_faultPlace_10, rl, n_a_dr_knots_11, fa_d1, fa_d2, hB_up, hB_rl, hp_12, by rw [ht]; exact hP9, va_K.moved hW.alike hK9, hD9⟩⟩, hS.F ht⟩) hS.2.2 dX8_takeNumber_38
  · have k_26 : (r_2).toInt > (99999 : Int) := z_nle c_4
    refine lv_aload_n hx hb dX8_takeNumber_21 rfl (lv_at hl 1 rfl) ?_
    refine va_get (D := (dC, dI)) (ci := 8) (v := .ref a_tp) (C := RX8) (T := TX8) (N := 9) hx hb hts hiX8 hown hK hP 0 rfl rfl 0 (by decide) w__fieldLink_RX8_42_ShellHeap_RulesReader_tape_LShellHeap_Tape_ (fun _ h9 => h9) rfl dX8_takeNumber_22 ?_
    refine lv_iconst (v := 2) hx hb dX8_takeNumber_25 (by decide) ?_
    obtain ⟨hPc, hDc, hFc⟩ := z_sub3 (ws' := [(a_tp, .inr (10, [.ref a_tb, .int tt, .int ta, .int tj, .int tf, .int ts, .int te, .int to, .int tg, .int tx, .int ty]))]) hP hD hS hA [1] (by decide) rfl
    have hKc := hK.sub (tys' := []) [] rfl
    refine va_calli (va_runV (As := [.int 2]) (rest := []) ⟨hx, hb, hml, hown, hts⟩ (s_X10_fail l dC dI H_1.size a_tp 2 (.ref a_tb) (.int tt) (.int ta) (.int tj) (.int tf) ts (.int te) (.int to) (.int tg) tx ty hB_ts) (cwV 1 hts gw_s_X8_takeNumber_s_X10_fail_67 rfl rfl rfl (by decide +kernel) ⟨Nat.le_of_ble_eq_true rfl, Nat.le_of_ble_eq_true rfl⟩) ⟨z_blind, va_recv hKc hPc (ci := 10) (q0 := 0) rfl rfl, z_pre hPc hKc hDc⟩ rfl rfl hl.1 rfl (lv_room (Nat.le_of_ble_eq_true rfl)) dX8_takeNumber_26 ⟨Nat.le_of_ble_eq_true rfl, Nat.le_of_ble_eq_true rfl⟩) hS (fun q _ h => hFc q h) hFc (fun r_28 u t H_27 locs ht hvm hw_29 hB hz1 hk1 hS => ?_)
    obtain ⟨n_h0_faultSort_30, n_h0_faultPlace_31, hP1, hK1, hD1⟩ := hB
    rw [ht] at hP1
    have hK1 := va_K.moved hvm.symm hK1
    obtain ⟨hP, hD⟩ := z_ap_6 (va_join (wr := [(h0, .inr (8, [.ref a_tp, .ref a_t1, .ref a_t2, .ref a_w1, .int uw, .int uo, .int up, .ref a_dr, h0_8])), (a_tb, .inl (ca_tb, 700, .inl fa_tb)), (a_dr, .inr (7, [.ref a_d1, .ref a_d2, .ref a_d3, .int rl, .int rc, .int rk])), (a_d1, .inl (ca_d1, 96, .inl fa_d1)), (a_d2, .inl (ca_d2, 96, .inl fa_d2)), (a_d3, .inl (ca_d3, 7, .inl fa_d3))]) hP hD [1] [0, 2, 3, 4, 5, 6] rfl rfl (by decide) (by decide) hk1 hFc hP1 hD1)
    clear hPc hDc hKc
    obtain rfl : r_28 = 0 := hw_29
    obtain ⟨hP9, hD9⟩ := z_sub2 (ws' := [(h0, .inr (8, [.ref a_tp, .ref a_t1, .ref a_t2, .ref a_w1, .int uw, .int uo, .int up, .ref a_dr, h0_8])), (a_tp, .inr (10, [.ref a_tb, .int tt, .int ta, .int tj, .int tf, .int ts, .int te, .int to, .int tg, .int n_h0_faultSort_30, .int n_h0_faultPlace_31])), (a_tb, .inl (ca_tb, 700, .inl fa_tb)), (a_dr, .inr (7, [.ref a_d1, .ref a_d2, .ref a_d3, .int rl, .int rc, .int rk])), (a_d1, .inl (ca_d1, 96, .inl fa_d1)), (a_d2, .inl (ca_d2, 96, .inl fa_d2)), (a_d3, .inl (ca_d3, 7, .inl fa_d3))]) hP hD [0, 6, 1, 2, 3, 4, 5] (by decide) rfl
    have hK9 := hK.sub (tys' := []) [] rfl
    refine W.widen (k := 0) (n := 0) (Nat.le_of_ble_eq_true rfl) (Nat.le_of_ble_eq_true rfl) ?_
    exact W.zret (v := 0) hx hb hr (by rfl) (fun t ht hW => ⟨⟨0, (), rfl, (show ((0 : Int) ≤ (0 : Int) ∧ (0 : Int) ≤ (1 : Int)) by decide), ⟨up, n_h0_faultSort_30, n_h0_faultPlace_31, rl, rk, fa_d1, fa_d2, hB_up, hB_rl, hB_rk, by rw [ht]; exact hP9, va_K.moved hW.alike hK9, hD9⟩⟩, hS.F ht⟩) hS.2.2 dX8_takeNumber_29
def u_s_X8_takeName : List Cond := .code yX8_takeName cX8_takeName 3 (some .boolean) :: ([.fieldLink RX8 42 "ShellHeap$RulesReader" "tape" "LShellHeap$Tape;", .methodLink RX8 63 yX10_wordIn, .instanceMethod yX10_wordIn, .selects RX10 yX10_wordIn yX10_wordIn, .initialized RX10, .methodLink RX8 133 yX8_tieKnot, .instanceMethod yX8_tieKnot, .selects RX8 yX8_tieKnot yX8_tieKnot, .initialized RX8, .fieldLink RX8 35 "ShellHeap$RulesReader" "draft" "LShellHeap$Rules;", .methodLink RX8 146 yX7_add, .instanceMethod yX7_add, .selects RX7 yX7_add yX7_add, .initialized RX7, .fieldLink RX8 30 "ShellHeap$RulesReader" "wantsPart" "Z", .methodLink RX8 67 yX10_fail, .instanceMethod yX10_fail, .selects RX10 yX10_fail yX10_fail] ++ (wsX80 ++ (u_s_X10_wordIn ++ (u_s_X8_tieKnot ++ (u_s_X7_add ++ (u_s_X10_fail ++ []))))))
theorem gd_s_X8_takeName : z_gd u_s_X8_takeName := z_gdc (by decide +kernel) (z_gda gdX8 (z_gda gd_s_X10_wordIn (z_gda gd_s_X8_tieKnot (z_gda gd_s_X7_add (z_gda gd_s_X10_fail (z_gd0))))))
set_option maxRecDepth 20000 in
theorem gw_s_X8_takeName_s_X10_wordIn_63 : GoodIn u_s_X8_takeName (wsV RX8 63 RX10 yX10_wordIn u_s_X10_wordIn) := z_gV (z_gr _ [2, 3, 4, 5] rfl (by decide +kernel)) (fun w h => ⟨z_mc (z_mr (z_mr (z_ml h))), gd_s_X10_wordIn w h⟩)
set_option maxRecDepth 20000 in
theorem gw_s_X8_takeName_s_X8_tieKnot_133 : GoodIn u_s_X8_takeName (wsV RX8 133 RX8 yX8_tieKnot u_s_X8_tieKnot) := z_gV (z_gr _ [6, 7, 8, 9] rfl (by decide +kernel)) (fun w h => ⟨z_mc (z_mr (z_mr (z_mr (z_ml h)))), gd_s_X8_tieKnot w h⟩)
set_option maxRecDepth 20000 in
theorem gw_s_X8_takeName_s_X7_add_146 : GoodIn u_s_X8_takeName (wsV RX8 146 RX7 yX7_add u_s_X7_add) := z_gV (z_gr _ [11, 12, 13, 14] rfl (by decide +kernel)) (fun w h => ⟨z_mc (z_mr (z_mr (z_mr (z_mr (z_ml h))))), gd_s_X7_add w h⟩)
set_option maxRecDepth 20000 in
theorem gw_s_X8_takeName_s_X10_fail_67 : GoodIn u_s_X8_takeName (wsV RX8 67 RX10 yX10_fail u_s_X10_fail) := z_gV (z_gr _ [16, 17, 18, 5] rfl (by decide +kernel)) (fun w h => ⟨z_mc (z_mr (z_mr (z_mr (z_mr (z_mr (z_ml h)))))), gd_s_X10_fail w h⟩)
set_option maxHeartbeats 4000000 in
set_option maxRecDepth 100000 in
theorem s_X8_takeName (l : Launch) (dC : Nat → ClassId) (dI : Nat → Nat → Nat) (sz : Nat) (sd : Nat → Nat) (sv : Nat → Nat) (sf : Value) (h0 : Nat) (p1 : Int32) (a_tp : Nat) (a_t1 : Nat) (a_t2 : Nat) (a_w1 : Nat) (uw : Int32) (uo : Int32) (up : Int32) (a_dr : Nat) (h0_8 : Value) (a_tb : Nat) (tt : Int32) (ta : Int32) (tj : Int32) (tf : Int32) (ts : Int32) (te : Int32) (to : Int32) (tg : Int32) (tx : Int32) (ty : Int32) (ca_tb : ClassId) (fa_tb : Nat → Int32) (a_d1 : Nat) (a_d2 : Nat) (a_d3 : Nat) (rl : Int32) (rc : Int32) (rk : Int32) (ca_d1 : ClassId) (fa_d1 : Nat → Int32) (ca_d2 : ClassId) (fa_d2 : Nat → Int32) (ca_d3 : ClassId) (fa_d3 : Nat → Int32) (hB_tt : ((0 : Int) ≤ (tt).toInt ∧ (tt).toInt ≤ (700 : Int))) (hB_ta : ((0 : Int) ≤ (ta).toInt ∧ (ta).toInt ≤ (700 : Int))) (hB_tf : ((0 : Int) ≤ (tf).toInt ∧ (tf).toInt ≤ (700 : Int))) (hB_ts : ((0 : Int) ≤ (ts).toInt ∧ (ts).toInt ≤ (700 : Int))) (hB_te : ((0 : Int) ≤ (te).toInt ∧ (te).toInt ≤ (700 : Int))) (hB_uw : ((0 : Int) ≤ (uw).toInt ∧ (uw).toInt ≤ (104 : Int))) (hB_uo : ((0 : Int) ≤ (uo).toInt ∧ (uo).toInt ≤ (8 : Int))) (hB_up : ((0 : Int) ≤ (up).toInt ∧ (up).toInt ≤ (1 : Int))) (hB_rl : ((0 : Int) ≤ (rl).toInt ∧ (rl).toInt ≤ (96 : Int))) (hB_rc : ((0 : Int) ≤ (rc).toInt ∧ (rc).toInt ≤ (6 : Int))) (hB_rk : ((0 : Int) ≤ (rk).toInt ∧ (rk).toInt ≤ (96 : Int))) (hI_a_tb : ∀ j : Nat, ((0 : Int) ≤ (fa_tb j).toInt ∧ (fa_tb j).toInt ≤ (255 : Int))) (hI_a_d3 : ∀ j : Nat, ((0 : Int) ≤ (fa_d3 j).toInt ∧ (fa_d3 j).toInt ≤ (96 : Int))) : Met l yX8_takeName u_s_X8_takeName ({ frames := 5, cells := 0, slots := 0, locals := 111 }) (va_Pc [.ref h0, .int p1] (z_CS (dC, dI) vwCl [(h0, .inr (8, [.ref a_tp, .ref a_t1, .ref a_t2, .ref a_w1, .int uw, .int uo, .int up, .ref a_dr, h0_8])), (a_tp, .inr (10, [.ref a_tb, .int tt, .int ta, .int tj, .int tf, .int ts, .int te, .int to, .int tg, .int tx, .int ty])), (a_tb, .inl (ca_tb, 700, .inl fa_tb)), (a_dr, .inr (7, [.ref a_d1, .ref a_d2, .ref a_d3, .int rl, .int rc, .int rk])), (a_d1, .inl (ca_d1, 96, .inl fa_d1)), (a_d2, .inl (ca_d2, 96, .inl fa_d2)), (a_d3, .inl (ca_d3, 7, .inl fa_d3))] [(ca_tb, .int), (ca_d1, .int), (ca_d2, .int), (ca_d3, .int)] sz sd sv sf [(h0, .inr (8, [.ref a_tp, .ref a_t1, .ref a_t2, .ref a_w1, .int uw, .int uo, .int up, .ref a_dr, h0_8])), (a_tp, .inr (10, [.ref a_tb, .int tt, .int ta, .int tj, .int tf, .int ts, .int te, .int to, .int tg, .int tx, .int ty])), (a_tb, .inl (ca_tb, 700, .inl fa_tb)), (a_dr, .inr (7, [.ref a_d1, .ref a_d2, .ref a_d3, .int rl, .int rc, .int rk])), (a_d1, .inl (ca_d1, 96, .inl fa_d1)), (a_d2, .inl (ca_d2, 96, .inl fa_d2)), (a_d3, .inl (ca_d3, 7, .inl fa_d3))])) (va_Qi (fun (r : Int32) (_ : Unit) => ((0 : Int) ≤ (r).toInt ∧ (r).toInt ≤ (1 : Int))) (fun (_ : Unit) (t : State) => ∃ (n_h0_wantsPart : Int32), ∃ (n_a_tp_faultSort : Int32), ∃ (n_a_tp_faultPlace : Int32), ∃ (n_a_dr_length : Int32), ∃ (n_a_dr_knots : Int32), ∃ (g_a_d1 : Nat → Int32), ∃ (g_a_d2 : Nat → Int32), ((0 : Int) ≤ (n_h0_wantsPart).toInt ∧ (n_h0_wantsPart).toInt ≤ (1 : Int)) ∧ ((0 : Int) ≤ (n_a_dr_length).toInt ∧ (n_a_dr_length).toInt ≤ (96 : Int)) ∧ ((0 : Int) ≤ (n_a_dr_knots).toInt ∧ (n_a_dr_knots).toInt ≤ (96 : Int)) ∧ va_P (dC, dI) vwCl [(h0, .inr (8, [.ref a_tp, .ref a_t1, .ref a_t2, .ref a_w1, .int uw, .int uo, .int n_h0_wantsPart, .ref a_dr, h0_8])), (a_tp, .inr (10, [.ref a_tb, .int tt, .int ta, .int tj, .int tf, .int ts, .int te, .int to, .int tg, .int n_a_tp_faultSort, .int n_a_tp_faultPlace])), (a_tb, .inl (ca_tb, 700, .inl fa_tb)), (a_dr, .inr (7, [.ref a_d1, .ref a_d2, .ref a_d3, .int n_a_dr_length, .int rc, .int n_a_dr_knots])), (a_d1, .inl (ca_d1, 96, .inl g_a_d1)), (a_d2, .inl (ca_d2, 96, .inl g_a_d2)), (a_d3, .inl (ca_d3, 7, .inl fa_d3))] t.heap ∧ va_K (dC, dI) vwCl [] t ∧ va_D (va_A [(h0, .inr (8, [.ref a_tp, .ref a_t1, .ref a_t2, .ref a_w1, .int uw, .int uo, .int up, .ref a_dr, h0_8])), (a_tp, .inr (10, [.ref a_tb, .int tt, .int ta, .int tj, .int tf, .int ts, .int te, .int to, .int tg, .int tx, .int ty])), (a_tb, .inl (ca_tb, 700, .inl fa_tb)), (a_dr, .inr (7, [.ref a_d1, .ref a_d2, .ref a_d3, .int rl, .int rc, .int rk])), (a_d1, .inl (ca_d1, 96, .inl fa_d1)), (a_d2, .inl (ca_d2, 96, .inl fa_d2)), (a_d3, .inl (ca_d3, 7, .inl fa_d3))] sz) [(h0, .inr (8, [.ref a_tp, .ref a_t1, .ref a_t2, .ref a_w1, .int uw, .int uo, .int n_h0_wantsPart, .ref a_dr, h0_8])), (a_tp, .inr (10, [.ref a_tb, .int tt, .int ta, .int tj, .int tf, .int ts, .int te, .int to, .int tg, .int n_a_tp_faultSort, .int n_a_tp_faultPlace])), (a_tb, .inl (ca_tb, 700, .inl fa_tb)), (a_dr, .inr (7, [.ref a_d1, .ref a_d2, .ref a_d3, .int n_a_dr_length, .int rc, .int n_a_dr_knots])), (a_d1, .inl (ca_d1, 96, .inl g_a_d1)), (a_d2, .inl (ca_d2, 96, .inl g_a_d2)), (a_d3, .inl (ca_d3, 7, .inl fa_d3))]) (va_A [(h0, .inr (8, [.ref a_tp, .ref a_t1, .ref a_t2, .ref a_w1, .int uw, .int uo, .int up, .ref a_dr, h0_8])), (a_tp, .inr (10, [.ref a_tb, .int tt, .int ta, .int tj, .int tf, .int ts, .int te, .int to, .int tg, .int tx, .int ty])), (a_tb, .inl (ca_tb, 700, .inl fa_tb)), (a_dr, .inr (7, [.ref a_d1, .ref a_d2, .ref a_d3, .int rl, .int rc, .int rk])), (a_d1, .inl (ca_d1, 96, .inl fa_d1)), (a_d2, .inl (ca_d2, 96, .inl fa_d2)), (a_d3, .inl (ca_d3, 7, .inl fa_d3))] sz)) 0 0 (va_A [(h0, .inr (8, [.ref a_tp, .ref a_t1, .ref a_t2, .ref a_w1, .int uw, .int uo, .int up, .ref a_dr, h0_8])), (a_tp, .inr (10, [.ref a_tb, .int tt, .int ta, .int tj, .int tf, .int ts, .int te, .int to, .int tg, .int tx, .int ty])), (a_tb, .inl (ca_tb, 700, .inl fa_tb)), (a_dr, .inr (7, [.ref a_d1, .ref a_d2, .ref a_d3, .int rl, .int rc, .int rk])), (a_d1, .inl (ca_d1, 96, .inl fa_d1)), (a_d2, .inl (ca_d2, 96, .inl fa_d2)), (a_d3, .inl (ca_d3, 7, .inl fa_d3))] sz) := by
  refine Met.ofW (cc := cX8_takeName) (maxL := 3) (ret := (some .boolean)) (by decide) rfl ?_
  intro p e s m args below meth c s₁ B hml hv
  obtain ⟨rfl, ⟨hsz, hP, hK, hD0⟩, hST⟩ := hv
  have hx := B.exec
  have hb := B.bytes
  have hr := B.returns
  have hts := atoms_spec (ws := u_s_X8_takeName) B.pre
  have hown : s.vm.findClass RX8 = some m.cls := findClass_of_methodNamed B.named
  have hlocks := B.notSynchronized
  subst hsz
  have hD := hD0.self (sz := s.heap.size)
  generalize hAe : va_A [(h0, .inr (8, [.ref a_tp, .ref a_t1, .ref a_t2, .ref a_w1, .int uw, .int uo, .int up, .ref a_dr, h0_8])), (a_tp, .inr (10, [.ref a_tb, .int tt, .int ta, .int tj, .int tf, .int ts, .int te, .int to, .int tg, .int tx, .int ty])), (a_tb, .inl (ca_tb, 700, .inl fa_tb)), (a_dr, .inr (7, [.ref a_d1, .ref a_d2, .ref a_d3, .int rl, .int rc, .int rk])), (a_d1, .inl (ca_d1, 96, .inl fa_d1)), (a_d2, .inl (ca_d2, 96, .inl fa_d2)), (a_d3, .inl (ca_d3, 7, .inl fa_d3))] s.heap.size = A at hD hST ⊢
  have hA : ∀ q : Nat, s.heap.size ≤ q → A q := fun q h => by rw [← hAe]; exact Or.inr h
  have hS : va_S A s.heap s.heap [] := va_S.rf
  have hP : va_P (dC, dI) vwCl [(h0, .inr (8, [.ref a_tp, .ref a_t1, .ref a_t2, .ref a_w1, .int uw, .int uo, .int up, .ref a_dr, h0_8])), (a_tp, .inr (10, [.ref a_tb, .int tt, .int ta, .int tj, .int tf, .int ts, .int te, .int to, .int tg, .int tx, .int ty])), (a_tb, .inl (ca_tb, 700, .inl fa_tb)), (a_dr, .inr (7, [.ref a_d1, .ref a_d2, .ref a_d3, .int rl, .int rc, .int rk])), (a_d1, .inl (ca_d1, 96, .inl fa_d1)), (a_d2, .inl (ca_d2, 96, .inl fa_d2)), (a_d3, .inl (ca_d3, 7, .inl fa_d3))] s.heap := hP
  have w__fieldLink_RX8_42_ShellHeap_RulesReader_tape_LShellHeap_Tape_ := hts (.fieldLink RX8 42 "ShellHeap$RulesReader" "tape" "LShellHeap$Tape;") (z_mc (z_ml z_m0))
  have hiX8 := show ∀ w ∈ u_ws RX8 TX8 9, w ∈ u_s_X8_takeName from fun w h => z_mc (z_mr (z_ml h))
  have w__fieldLink_RX8_35_ShellHeap_RulesReader_draft_LShellHeap_Rules_ := hts (.fieldLink RX8 35 "ShellHeap$RulesReader" "draft" "LShellHeap$Rules;") (z_mc (z_ml z_m9))
  have w__fieldLink_RX8_30_ShellHeap_RulesReader_wantsPart_Z_ := hts (.fieldLink RX8 30 "ShellHeap$RulesReader" "wantsPart" "Z") (z_mc (z_ml z_m14))
  have krr_p1 := z_rng p1
  have hl := lv_entry ([.ref h0, .int p1]) (n := 3) (Nat.le_of_ble_eq_true rfl)
  rw [lg_entry_eq]
  generalize (lg_sl ([.ref h0, .int p1]) ++ List.replicate (3 - (lg_sl ([.ref h0, .int p1])).length) Slot.unset).toArray = ls at hl ⊢
  have hl : lv_has ls 3 [(0, .ref h0), (1, .int p1)] := hl
  refine lv_aload_n hx hb dX8_takeName_0 rfl (lv_at hl 0 rfl) ?_
  refine va_get (D := (dC, dI)) (ci := 8) (v := .ref a_tp) (C := RX8) (T := TX8) (N := 9) hx hb hts hiX8 hown hK hP 0 rfl rfl 0 (by decide) w__fieldLink_RX8_42_ShellHeap_RulesReader_tape_LShellHeap_Tape_ (fun _ h9 => h9) rfl dX8_takeName_1 ?_
  refine va_ldcS hx hb hown hST.2.2.2.2.2.1 dX8_takeName_4 ?_
  obtain ⟨hPc, hDc⟩ := z_sub2 (ws' := [(a_tp, .inr (10, [.ref a_tb, .int tt, .int ta, .int tj, .int tf, .int ts, .int te, .int to, .int tg, .int tx, .int ty])), (a_tb, .inl (ca_tb, 700, .inl fa_tb))]) hP hD [1, 2] (by decide) rfl
  have hKc := hK.sub (tys' := [(ca_tb, .int)]) [0] rfl
  have hFc := va_free (ws := []) (wc := []) (z_D0 _) hS hA [] rfl
  refine va_calli (va_runV (As := [.ref (sd 2)]) (rest := []) ⟨hx, hb, hml, hown, hts⟩ (s_X10_wordIn l dC dI s.heap.size sd sv sf 2 a_tp a_tb tt (.int ta) (.int tj) (.int tf) ts te to (.int tg) (.int tx) (.int ty) ca_tb fa_tb hB_tt hB_ts hB_te hI_a_tb (by decide)) (cwV 1 hts gw_s_X8_takeName_s_X10_wordIn_63 rfl rfl rfl (by decide +kernel) ⟨Nat.le_of_ble_eq_true rfl, Nat.le_of_ble_eq_true rfl⟩) ⟨z_blindS, va_recv hKc hPc (ci := 10) (q0 := 0) rfl rfl, z_preS hPc hKc hDc ((hST.kept hS.2.1).narrow hFc)⟩ rfl rfl hl.1 rfl (lv_room (Nat.le_of_ble_eq_true rfl)) dX8_takeName_6 ⟨Nat.le_of_ble_eq_true rfl, Nat.le_of_ble_eq_true rfl⟩) hS (fun q _ h => hFc q h) hFc (fun r_2 u t H_1 locs ht hvm hw_3 hB hz1 hk1 hS => ?_)
  replace hP := z_pure hP hk1
  clear hPc hDc hKc
  refine lv_istore_n (lv' := [(2, .int r_2), (0, .ref h0), (1, .int p1)]) hx hb dX8_takeName_9 rfl hl (by decide) rfl (fun ls hl => ?_)
  refine lv_iload_n hx hb dX8_takeName_10 rfl (lv_at hl 0 rfl) ?_
  refine lv_iconst (v := (-1)) hx hb dX8_takeName_11 (by decide) ?_
  refine lv_icmp_ne (tgt := 24) hx hb dX8_takeName_12 (by decide) (fun c_4 => ?_) (fun c_4 => ?_)
  · have k_5 : (r_2).toInt ≠ (-1 : Int) := z_ne c_4
    refine lv_aload_n hx hb dX8_takeName_24 rfl (lv_at hl 1 rfl) ?_
    obtain ⟨hPc, hDc, hFc⟩ := z_sub3 (ws' := [(h0, .inr (8, [.ref a_tp, .ref a_t1, .ref a_t2, .ref a_w1, .int uw, .int uo, .int up, .ref a_dr, h0_8])), (a_tp, .inr (10, [.ref a_tb, .int tt, .int ta, .int tj, .int tf, .int ts, .int te, .int to, .int tg, .int tx, .int ty])), (a_tb, .inl (ca_tb, 700, .inl fa_tb)), (a_dr, .inr (7, [.ref a_d1, .ref a_d2, .ref a_d3, .int rl, .int rc, .int rk]))]) hP hD hS hA [0, 1, 2, 3] (by decide) rfl
    have hKc := hK.sub (tys' := [(ca_tb, .int)]) [0] rfl
    refine va_calli (va_runV (As := []) (rest := []) ⟨hx, hb, hml, hown, hts⟩ (s_X8_tieKnot l dC dI H_1.size h0 a_tp a_t1 a_t2 a_w1 uw uo up a_dr h0_8 a_tb tt ta tj tf ts te to tg tx ty ca_tb fa_tb a_d1 a_d2 a_d3 rl rc rk hB_tt hB_ta hB_tf hB_ts hB_te hB_uw hB_uo hB_up hB_rl hB_rc hB_rk hI_a_tb) (cwV 0 hts gw_s_X8_takeName_s_X8_tieKnot_133 rfl rfl rfl (by decide +kernel) ⟨Nat.le_of_ble_eq_true rfl, Nat.le_of_ble_eq_true rfl⟩) ⟨z_blind, va_recv hKc hPc (ci := 8) (q0 := 0) rfl rfl, z_pre hPc hKc hDc⟩ rfl rfl hl.1 rfl (lv_room (Nat.le_of_ble_eq_true rfl)) dX8_takeName_25 ⟨Nat.le_of_ble_eq_true rfl, Nat.le_of_ble_eq_true rfl⟩) hS (fun q _ h => hFc q h) hFc (fun r_7 u t H_6 locs ht hvm hw_8 hB hz1 hk1 hS => ?_)
    obtain ⟨n_a_tp_faultSort_9, n_a_tp_faultPlace_10, n_a_dr_knots_11, hp_12, hP1, hK1, hD1⟩ := hB
    rw [ht] at hP1
    have hK1 := va_K.moved hvm.symm hK1
    obtain ⟨hP, hD⟩ := z_ap_3 (va_join (wr := [(a_d1, .inl (ca_d1, 96, .inl fa_d1)), (a_d2, .inl (ca_d2, 96, .inl fa_d2)), (a_d3, .inl (ca_d3, 7, .inl fa_d3))]) hP hD [0, 1, 2, 3] [4, 5, 6] rfl rfl (by decide) (by decide) hk1 hFc hP1 hD1)
    clear hPc hDc hKc
    refine lv_if_ne (tgt := 33) hx hb dX8_takeName_28 (by decide) (fun c_13 => ?_) (fun c_13 => ?_)
    · have k_14 : (r_7).toInt ≠ (0 : Int) := z_ne c_13
      obtain rfl : r_7 = 1 := z_eq' (show (r_7).toInt = (1 : Int) by omega)
      refine lv_aload_n hx hb dX8_takeName_33 rfl (lv_at hl 1 rfl) ?_
      refine va_get (D := (dC, dI)) (ci := 8) (v := .ref a_dr) (C := RX8) (T := TX8) (N := 9) hx hb hts hiX8 hown hK hP 3 rfl rfl 7 (by decide) w__fieldLink_RX8_35_ShellHeap_RulesReader_draft_LShellHeap_Rules_ (fun _ h9 => h9) rfl dX8_takeName_34 ?_
      refine lv_iload_n hx hb dX8_takeName_37 rfl (lv_at hl 2 rfl) ?_
      refine lv_iload_n hx hb dX8_takeName_38 rfl (lv_at hl 0 rfl) ?_
      obtain ⟨hPc, hDc, hFc⟩ := z_sub3 (ws' := [(a_dr, .inr (7, [.ref a_d1, .ref a_d2, .ref a_d3, .int rl, .int rc, .int n_a_dr_knots_11])), (a_d1, .inl (ca_d1, 96, .inl fa_d1)), (a_d2, .inl (ca_d2, 96, .inl fa_d2))]) hP hD hS hA [6, 0, 1] (by decide) rfl
      have hKc := hK.sub (tys' := [(ca_d1, .int), (ca_d2, .int)]) [1, 2] rfl
      refine va_callv (va_runV (As := [.int p1, .int r_2]) (rest := []) ⟨hx, hb, hml, hown, hts⟩ (s_X7_add l dC dI H_6.size a_dr p1 r_2 a_d1 a_d2 (.ref a_d3) rl (.int rc) (.int n_a_dr_knots_11) ca_d1 fa_d1 ca_d2 fa_d2 hB_rl) (cwV 2 hts gw_s_X8_takeName_s_X7_add_146 rfl rfl rfl (by decide +kernel) ⟨Nat.le_of_ble_eq_true rfl, Nat.le_of_ble_eq_true rfl⟩) ⟨z_blind, va_recv hKc hPc (ci := 7) (q0 := 0) rfl rfl, z_pre hPc hKc hDc⟩ rfl rfl hl.1 rfl (lv_room (Nat.le_of_ble_eq_true rfl)) dX8_takeName_39 ⟨Nat.le_of_ble_eq_true rfl, Nat.le_of_ble_eq_true rfl⟩) hS (fun q _ h => hFc q h) hFc (fun u t H_16 locs ht hvm hw_18 hB hz1 hk1 hS => ?_)
      obtain ⟨n_h0_length_19, g_h1_20, g_h2_21, hp_22, hP1, hK1, hD1⟩ := hB
      rw [ht] at hP1
      have hK1 := va_K.moved hvm.symm hK1
      obtain ⟨hP, hD⟩ := z_ap_4 (va_join (wr := [(a_d3, .inl (ca_d3, 7, .inl fa_d3)), (h0, .inr (8, [.ref a_tp, .ref a_t1, .ref a_t2, .ref a_w1, .int uw, .int uo, .int up, .ref a_dr, h0_8])), (a_tp, .inr (10, [.ref a_tb, .int tt, .int ta, .int tj, .int tf, .int ts, .int te, .int to, .int tg, .int n_a_tp_faultSort_9, .int n_a_tp_faultPlace_10])), (a_tb, .inl (ca_tb, 700, .inl fa_tb))]) hP hD [6, 0, 1] [2, 3, 4, 5] rfl rfl (by decide) (by decide) hk1 hFc hP1 hD1)
      clear hPc hDc hKc
      refine lv_aload_n hx hb dX8_takeName_42 rfl (lv_at hl 1 rfl) ?_
      refine lv_iconst (v := 0) hx hb dX8_takeName_43 (by decide) ?_
      refine va_put (D := (dC, dI)) (ci := 8) (v := .int 0) (ty := .boolean) (C := RX8) (T := TX8) (N := 9) hx hb hts hiX8 tyX8 tyX8_ok nmX8 hown hK hP hD hS 1 rfl rfl 6 (by decide) w__fieldLink_RX8_30_ShellHeap_RulesReader_wantsPart_Z_ (fun _ h9 => h9) rfl (by decide +kernel) rfl rfl (Nat.le_of_ble_eq_true rfl) dX8_takeName_44 (fun H_23 locs hP hD hS => ?_)
      obtain ⟨hP, hD⟩ := z_s_1_6 hP hD
      refine lv_iconst (v := 1) hx hb dX8_takeName_47 (by decide) ?_
      obtain ⟨hP9, hD9⟩ := z_sub2 (ws' := [(h0, .inr (8, [.ref a_tp, .ref a_t1, .ref a_t2, .ref a_w1, .int uw, .int uo, .int 0, .ref a_dr, h0_8])), (a_tp, .inr (10, [.ref a_tb, .int tt, .int ta, .int tj, .int tf, .int ts, .int te, .int to, .int tg, .int n_a_tp_faultSort_9, .int n_a_tp_faultPlace_10])), (a_tb, .inl (ca_tb, 700, .inl fa_tb)), (a_dr, .inr (7, [.ref a_d1, .ref a_d2, .ref a_d3, .int n_h0_length_19, .int rc, .int n_a_dr_knots_11])), (a_d1, .inl (ca_d1, 96, .inl g_h1_20)), (a_d2, .inl (ca_d2, 96, .inl g_h2_21)), (a_d3, .inl (ca_d3, 7, .inl fa_d3))]) hP hD [1, 2, 3, 4, 5, 6, 0] (by decide) rfl
      have hK9 := hK.sub (tys' := []) [] rfl
      refine W.widen (k := 0) (n := 0) (Nat.le_of_ble_eq_true rfl) (Nat.le_of_ble_eq_true rfl) ?_
      exact W.zret (v := 1) hx hb hr (by rfl) (fun t ht hW => ⟨⟨1, (), rfl, (show ((0 : Int) ≤ (1 : Int) ∧ (1 : Int) ≤ (1 : Int)) by decide), ⟨0, n_a_tp_faultSort_9, n_a_tp_faultPlace_10, n_h0_length_19, n_a_dr_knots_11, g_h1_20, g_h2_21, (by decide), hp_22, hp_12, by rw [ht]; exact hP9, va_K.moved hW.alike hK9, hD9⟩⟩, hS.F ht⟩) hS.2.2 dX8_takeName_48
    · have k_24 : (r_7).toInt = (0 : Int) := z_eq c_13
      obtain rfl : r_7 = 0 := z_eq' (show (r_7).toInt = (0 : Int) by omega)
      refine lv_iconst (v := 0) hx hb dX8_takeName_31 (by decide) ?_
      obtain ⟨hP9, hD9⟩ := z_sub2 (ws' := [(h0, .inr (8, [.ref a_tp, .ref a_t1, .ref a_t2, .ref a_w1, .int uw, .int uo, .int up, .ref a_dr, h0_8])), (a_tp, .inr (10, [.ref a_tb, .int tt, .int ta, .int tj, .int tf, .int ts, .int te, .int to, .int tg, .int n_a_tp_faultSort_9, .int n_a_tp_faultPlace_10])), (a_tb, .inl (ca_tb, 700, .inl fa_tb)), (a_dr, .inr (7, [.ref a_d1, .ref a_d2, .ref a_d3, .int rl, .int rc, .int n_a_dr_knots_11])), (a_d1, .inl (ca_d1, 96, .inl fa_d1)), (a_d2, .inl (ca_d2, 96, .inl fa_d2)), (a_d3, .inl (ca_d3, 7, .inl fa_d3))]) hP hD [3, 4, 5, 6, 0, 1, 2] (by decide) rfl
      have hK9 := hK.sub (tys' := []) [] rfl
      refine W.widen (k := 0) (n := 0) (Nat.le_of_ble_eq_true rfl) (Nat.le_of_ble_eq_true rfl) ?_
      exact W.zret (v := 0) hx hb hr (by rfl) (fun t ht hW => ⟨⟨0, (), rfl, (show ((0 : Int) ≤ (0 : Int) ∧ (0 : Int) ≤ (1 : Int)) by decide), ⟨up, n_a_tp_faultSort_9, n_a_tp_faultPlace_10, rl, n_a_dr_knots_11, fa_d1, fa_d2, hB_up, hB_rl, hp_12, by rw [ht]; exact hP9, va_K.moved hW.alike hK9, hD9⟩⟩, hS.F ht⟩) hS.2.2 dX8_takeName_32
  · have k_26 : (r_2).toInt = (-1 : Int) := z_eq c_4
    obtain rfl : r_2 = (-1) := z_eq' (show (r_2).toInt = (-1 : Int) by omega)
    refine lv_aload_n hx hb dX8_takeName_15 rfl (lv_at hl 1 rfl) ?_
    refine va_get (D := (dC, dI)) (ci := 8) (v := .ref a_tp) (C := RX8) (T := TX8) (N := 9) hx hb hts hiX8 hown hK hP 0 rfl rfl 0 (by decide) w__fieldLink_RX8_42_ShellHeap_RulesReader_tape_LShellHeap_Tape_ (fun _ h9 => h9) rfl dX8_takeName_16 ?_
    refine lv_iconst (v := 1) hx hb dX8_takeName_19 (by decide) ?_
    obtain ⟨hPc, hDc, hFc⟩ := z_sub3 (ws' := [(a_tp, .inr (10, [.ref a_tb, .int tt, .int ta, .int tj, .int tf, .int ts, .int te, .int to, .int tg, .int tx, .int ty]))]) hP hD hS hA [1] (by decide) rfl
    have hKc := hK.sub (tys' := []) [] rfl
    refine va_calli (va_runV (As := [.int 1]) (rest := []) ⟨hx, hb, hml, hown, hts⟩ (s_X10_fail l dC dI H_1.size a_tp 1 (.ref a_tb) (.int tt) (.int ta) (.int tj) (.int tf) ts (.int te) (.int to) (.int tg) tx ty hB_ts) (cwV 1 hts gw_s_X8_takeName_s_X10_fail_67 rfl rfl rfl (by decide +kernel) ⟨Nat.le_of_ble_eq_true rfl, Nat.le_of_ble_eq_true rfl⟩) ⟨z_blind, va_recv hKc hPc (ci := 10) (q0 := 0) rfl rfl, z_pre hPc hKc hDc⟩ rfl rfl hl.1 rfl (lv_room (Nat.le_of_ble_eq_true rfl)) dX8_takeName_20 ⟨Nat.le_of_ble_eq_true rfl, Nat.le_of_ble_eq_true rfl⟩) hS (fun q _ h => hFc q h) hFc (fun r_29 u t H_28 locs ht hvm hw_30 hB hz1 hk1 hS => ?_)
    obtain ⟨n_h0_faultSort_31, n_h0_faultPlace_32, hP1, hK1, hD1⟩ := hB
    rw [ht] at hP1
    have hK1 := va_K.moved hvm.symm hK1
    obtain ⟨hP, hD⟩ := z_ap_6 (va_join (wr := [(h0, .inr (8, [.ref a_tp, .ref a_t1, .ref a_t2, .ref a_w1, .int uw, .int uo, .int up, .ref a_dr, h0_8])), (a_tb, .inl (ca_tb, 700, .inl fa_tb)), (a_dr, .inr (7, [.ref a_d1, .ref a_d2, .ref a_d3, .int rl, .int rc, .int rk])), (a_d1, .inl (ca_d1, 96, .inl fa_d1)), (a_d2, .inl (ca_d2, 96, .inl fa_d2)), (a_d3, .inl (ca_d3, 7, .inl fa_d3))]) hP hD [1] [0, 2, 3, 4, 5, 6] rfl rfl (by decide) (by decide) hk1 hFc hP1 hD1)
    clear hPc hDc hKc
    obtain rfl : r_29 = 0 := hw_30
    obtain ⟨hP9, hD9⟩ := z_sub2 (ws' := [(h0, .inr (8, [.ref a_tp, .ref a_t1, .ref a_t2, .ref a_w1, .int uw, .int uo, .int up, .ref a_dr, h0_8])), (a_tp, .inr (10, [.ref a_tb, .int tt, .int ta, .int tj, .int tf, .int ts, .int te, .int to, .int tg, .int n_h0_faultSort_31, .int n_h0_faultPlace_32])), (a_tb, .inl (ca_tb, 700, .inl fa_tb)), (a_dr, .inr (7, [.ref a_d1, .ref a_d2, .ref a_d3, .int rl, .int rc, .int rk])), (a_d1, .inl (ca_d1, 96, .inl fa_d1)), (a_d2, .inl (ca_d2, 96, .inl fa_d2)), (a_d3, .inl (ca_d3, 7, .inl fa_d3))]) hP hD [0, 6, 1, 2, 3, 4, 5] (by decide) rfl
    have hK9 := hK.sub (tys' := []) [] rfl
    refine W.widen (k := 0) (n := 0) (Nat.le_of_ble_eq_true rfl) (Nat.le_of_ble_eq_true rfl) ?_
    exact W.zret (v := 0) hx hb hr (by rfl) (fun t ht hW => ⟨⟨0, (), rfl, (show ((0 : Int) ≤ (0 : Int) ∧ (0 : Int) ≤ (1 : Int)) by decide), ⟨up, n_h0_faultSort_31, n_h0_faultPlace_32, rl, rk, fa_d1, fa_d2, hB_up, hB_rl, hB_rk, by rw [ht]; exact hP9, va_K.moved hW.alike hK9, hD9⟩⟩, hS.F ht⟩) hS.2.2 dX8_takeName_23
def u_s_X8_takeNot : List Cond := .code yX8_takeNot cX8_takeNot 1 (some .boolean) :: ([.methodLink RX8 150 yX8_lastWaiting, .instanceMethod yX8_lastWaiting, .selects RX8 yX8_lastWaiting yX8_lastWaiting, .initialized RX8, .methodLink RX8 103 yX8_tightness, .static yX8_tightness, .methodLink RX8 133 yX8_tieKnot, .instanceMethod yX8_tieKnot, .selects RX8 yX8_tieKnot yX8_tieKnot, .methodLink RX8 139 yX8_await, .instanceMethod yX8_await, .selects RX8 yX8_await yX8_await, .fieldLink RX8 42 "ShellHeap$RulesReader" "tape" "LShellHeap$Tape;", .methodLink RX8 67 yX10_fail, .instanceMethod yX10_fail, .selects RX10 yX10_fail yX10_fail, .initialized RX10] ++ (wsX80 ++ (u_s_X8_lastWaiting ++ (u_s_X8_tightness ++ (u_s_X8_tieKnot ++ (u_s_X8_await ++ (u_s_X10_fail ++ [])))))))
theorem gd_s_X8_takeNot : z_gd u_s_X8_takeNot := z_gdc (by decide +kernel) (z_gda gdX8 (z_gda gd_s_X8_lastWaiting (z_gda gd_s_X8_tightness (z_gda gd_s_X8_tieKnot (z_gda gd_s_X8_await (z_gda gd_s_X10_fail (z_gd0)))))))
set_option maxRecDepth 20000 in
theorem gw_s_X8_takeNot_s_X8_lastWaiting_150 : GoodIn u_s_X8_takeNot (wsV RX8 150 RX8 yX8_lastWaiting u_s_X8_lastWaiting) := z_gV (z_gr _ [1, 2, 3, 4] rfl (by decide +kernel)) (fun w h => ⟨z_mc (z_mr (z_mr (z_ml h))), gd_s_X8_lastWaiting w h⟩)
set_option maxRecDepth 20000 in
theorem gw_s_X8_takeNot_s_X8_tightness_103 : GoodIn u_s_X8_takeNot (va_wsS RX8 103 yX8_tightness u_s_X8_tightness) := z_gS (z_gr _ [5, 6, 4] rfl (by decide +kernel)) (fun w h => ⟨z_mc (z_mr (z_mr (z_mr (z_ml h)))), gd_s_X8_tightness w h⟩)
set_option maxRecDepth 20000 in
theorem gw_s_X8_takeNot_s_X8_tieKnot_133 : GoodIn u_s_X8_takeNot (wsV RX8 133 RX8 yX8_tieKnot u_s_X8_tieKnot) := z_gV (z_gr _ [7, 8, 9, 4] rfl (by decide +kernel)) (fun w h => ⟨z_mc (z_mr (z_mr (z_mr (z_mr (z_ml h))))), gd_s_X8_tieKnot w h⟩)
set_option maxRecDepth 20000 in
theorem gw_s_X8_takeNot_s_X8_await_139 : GoodIn u_s_X8_takeNot (wsV RX8 139 RX8 yX8_await u_s_X8_await) := z_gV (z_gr _ [10, 11, 12, 4] rfl (by decide +kernel)) (fun w h => ⟨z_mc (z_mr (z_mr (z_mr (z_mr (z_mr (z_ml h)))))), gd_s_X8_await w h⟩)
set_option maxRecDepth 20000 in
theorem gw_s_X8_takeNot_s_X10_fail_67 : GoodIn u_s_X8_takeNot (wsV RX8 67 RX10 yX10_fail u_s_X10_fail) := z_gV (z_gr _ [14, 15, 16, 17] rfl (by decide +kernel)) (fun w h => ⟨z_mc (z_mr (z_mr (z_mr (z_mr (z_mr (z_mr (z_ml h))))))), gd_s_X10_fail w h⟩)
set_option maxHeartbeats 4000000 in
set_option maxRecDepth 100000 in
theorem s_X8_takeNot (l : Launch) (dC : Nat → ClassId) (dI : Nat → Nat → Nat) (sz : Nat) (h0 : Nat) (a_tp : Nat) (a_t1 : Nat) (a_t2 : Nat) (a_w1 : Nat) (uw : Int32) (uo : Int32) (up : Int32) (a_dr : Nat) (h0_8 : Value) (ca_w1 : ClassId) (fa_w1 : Nat → Int32) (a_tb : Nat) (tt : Int32) (ta : Int32) (tj : Int32) (tf : Int32) (ts : Int32) (te : Int32) (to : Int32) (tg : Int32) (tx : Int32) (ty : Int32) (ca_tb : ClassId) (fa_tb : Nat → Int32) (a_d1 : Nat) (a_d2 : Nat) (a_d3 : Nat) (rl : Int32) (rc : Int32) (rk : Int32) (hB_tt : ((0 : Int) ≤ (tt).toInt ∧ (tt).toInt ≤ (700 : Int))) (hB_ta : ((0 : Int) ≤ (ta).toInt ∧ (ta).toInt ≤ (700 : Int))) (hB_tf : ((0 : Int) ≤ (tf).toInt ∧ (tf).toInt ≤ (700 : Int))) (hB_ts : ((0 : Int) ≤ (ts).toInt ∧ (ts).toInt ≤ (700 : Int))) (hB_te : ((0 : Int) ≤ (te).toInt ∧ (te).toInt ≤ (700 : Int))) (hB_uw : ((0 : Int) ≤ (uw).toInt ∧ (uw).toInt ≤ (104 : Int))) (hB_uo : ((0 : Int) ≤ (uo).toInt ∧ (uo).toInt ≤ (8 : Int))) (hB_up : ((0 : Int) ≤ (up).toInt ∧ (up).toInt ≤ (1 : Int))) (hB_rl : ((0 : Int) ≤ (rl).toInt ∧ (rl).toInt ≤ (96 : Int))) (hB_rc : ((0 : Int) ≤ (rc).toInt ∧ (rc).toInt ≤ (6 : Int))) (hB_rk : ((0 : Int) ≤ (rk).toInt ∧ (rk).toInt ≤ (96 : Int))) (hI_a_tb : ∀ j : Nat, ((0 : Int) ≤ (fa_tb j).toInt ∧ (fa_tb j).toInt ≤ (255 : Int))) : Met l yX8_takeNot u_s_X8_takeNot ({ frames := 2, cells := 0, slots := 0, locals := 41 }) (va_Pc [.ref h0] (z_C (dC, dI) vwCl [(h0, .inr (8, [.ref a_tp, .ref a_t1, .ref a_t2, .ref a_w1, .int uw, .int uo, .int up, .ref a_dr, h0_8])), (a_w1, .inl (ca_w1, 104, .inl fa_w1)), (a_tp, .inr (10, [.ref a_tb, .int tt, .int ta, .int tj, .int tf, .int ts, .int te, .int to, .int tg, .int tx, .int ty])), (a_tb, .inl (ca_tb, 700, .inl fa_tb)), (a_dr, .inr (7, [.ref a_d1, .ref a_d2, .ref a_d3, .int rl, .int rc, .int rk]))] [(ca_w1, .int), (ca_tb, .int)] sz)) (va_Qi (fun (r : Int32) (_ : Unit) => ((0 : Int) ≤ (r).toInt ∧ (r).toInt ≤ (1 : Int))) (fun (_ : Unit) (t : State) => ∃ (n_h0_waits : Int32), ∃ (g_a_w1 : Nat → Int32), ∃ (n_a_tp_faultSort : Int32), ∃ (n_a_tp_faultPlace : Int32), ∃ (n_a_dr_knots : Int32), ((0 : Int) ≤ (n_h0_waits).toInt ∧ (n_h0_waits).toInt ≤ (104 : Int)) ∧ ((0 : Int) ≤ (n_a_dr_knots).toInt ∧ (n_a_dr_knots).toInt ≤ (96 : Int)) ∧ va_P (dC, dI) vwCl [(h0, .inr (8, [.ref a_tp, .ref a_t1, .ref a_t2, .ref a_w1, .int n_h0_waits, .int uo, .int up, .ref a_dr, h0_8])), (a_w1, .inl (ca_w1, 104, .inl g_a_w1)), (a_tp, .inr (10, [.ref a_tb, .int tt, .int ta, .int tj, .int tf, .int ts, .int te, .int to, .int tg, .int n_a_tp_faultSort, .int n_a_tp_faultPlace])), (a_tb, .inl (ca_tb, 700, .inl fa_tb)), (a_dr, .inr (7, [.ref a_d1, .ref a_d2, .ref a_d3, .int rl, .int rc, .int n_a_dr_knots]))] t.heap ∧ va_K (dC, dI) vwCl [] t ∧ va_D (va_A [(h0, .inr (8, [.ref a_tp, .ref a_t1, .ref a_t2, .ref a_w1, .int uw, .int uo, .int up, .ref a_dr, h0_8])), (a_w1, .inl (ca_w1, 104, .inl fa_w1)), (a_tp, .inr (10, [.ref a_tb, .int tt, .int ta, .int tj, .int tf, .int ts, .int te, .int to, .int tg, .int tx, .int ty])), (a_tb, .inl (ca_tb, 700, .inl fa_tb)), (a_dr, .inr (7, [.ref a_d1, .ref a_d2, .ref a_d3, .int rl, .int rc, .int rk]))] sz) [(h0, .inr (8, [.ref a_tp, .ref a_t1, .ref a_t2, .ref a_w1, .int n_h0_waits, .int uo, .int up, .ref a_dr, h0_8])), (a_w1, .inl (ca_w1, 104, .inl g_a_w1)), (a_tp, .inr (10, [.ref a_tb, .int tt, .int ta, .int tj, .int tf, .int ts, .int te, .int to, .int tg, .int n_a_tp_faultSort, .int n_a_tp_faultPlace])), (a_tb, .inl (ca_tb, 700, .inl fa_tb)), (a_dr, .inr (7, [.ref a_d1, .ref a_d2, .ref a_d3, .int rl, .int rc, .int n_a_dr_knots]))]) (va_A [(h0, .inr (8, [.ref a_tp, .ref a_t1, .ref a_t2, .ref a_w1, .int uw, .int uo, .int up, .ref a_dr, h0_8])), (a_w1, .inl (ca_w1, 104, .inl fa_w1)), (a_tp, .inr (10, [.ref a_tb, .int tt, .int ta, .int tj, .int tf, .int ts, .int te, .int to, .int tg, .int tx, .int ty])), (a_tb, .inl (ca_tb, 700, .inl fa_tb)), (a_dr, .inr (7, [.ref a_d1, .ref a_d2, .ref a_d3, .int rl, .int rc, .int rk]))] sz)) 0 0 (va_A [(h0, .inr (8, [.ref a_tp, .ref a_t1, .ref a_t2, .ref a_w1, .int uw, .int uo, .int up, .ref a_dr, h0_8])), (a_w1, .inl (ca_w1, 104, .inl fa_w1)), (a_tp, .inr (10, [.ref a_tb, .int tt, .int ta, .int tj, .int tf, .int ts, .int te, .int to, .int tg, .int tx, .int ty])), (a_tb, .inl (ca_tb, 700, .inl fa_tb)), (a_dr, .inr (7, [.ref a_d1, .ref a_d2, .ref a_d3, .int rl, .int rc, .int rk]))] sz) := by
  refine Met.ofW (cc := cX8_takeNot) (maxL := 1) (ret := (some .boolean)) (by decide) rfl ?_
  intro p e s m args below meth c s₁ B hml hv
  obtain ⟨rfl, hsz, hP, hK, hD0⟩ := hv
  have hx := B.exec
  have hb := B.bytes
  have hr := B.returns
  have hts := atoms_spec (ws := u_s_X8_takeNot) B.pre
  have hown : s.vm.findClass RX8 = some m.cls := findClass_of_methodNamed B.named
  have hlocks := B.notSynchronized
  subst hsz
  have hD := hD0.self (sz := s.heap.size)
  generalize hAe : va_A [(h0, .inr (8, [.ref a_tp, .ref a_t1, .ref a_t2, .ref a_w1, .int uw, .int uo, .int up, .ref a_dr, h0_8])), (a_w1, .inl (ca_w1, 104, .inl fa_w1)), (a_tp, .inr (10, [.ref a_tb, .int tt, .int ta, .int tj, .int tf, .int ts, .int te, .int to, .int tg, .int tx, .int ty])), (a_tb, .inl (ca_tb, 700, .inl fa_tb)), (a_dr, .inr (7, [.ref a_d1, .ref a_d2, .ref a_d3, .int rl, .int rc, .int rk]))] s.heap.size = A at hD ⊢
  have hA : ∀ q : Nat, s.heap.size ≤ q → A q := fun q h => by rw [← hAe]; exact Or.inr h
  have hS : va_S A s.heap s.heap [] := va_S.rf
  have hP : va_P (dC, dI) vwCl [(h0, .inr (8, [.ref a_tp, .ref a_t1, .ref a_t2, .ref a_w1, .int uw, .int uo, .int up, .ref a_dr, h0_8])), (a_w1, .inl (ca_w1, 104, .inl fa_w1)), (a_tp, .inr (10, [.ref a_tb, .int tt, .int ta, .int tj, .int tf, .int ts, .int te, .int to, .int tg, .int tx, .int ty])), (a_tb, .inl (ca_tb, 700, .inl fa_tb)), (a_dr, .inr (7, [.ref a_d1, .ref a_d2, .ref a_d3, .int rl, .int rc, .int rk]))] s.heap := hP
  have w__fieldLink_RX8_42_ShellHeap_RulesReader_tape_LShellHeap_Tape_ := hts (.fieldLink RX8 42 "ShellHeap$RulesReader" "tape" "LShellHeap$Tape;") (z_mc (z_ml z_m12))
  have hiX8 := show ∀ w ∈ u_ws RX8 TX8 9, w ∈ u_s_X8_takeNot from fun w h => z_mc (z_mr (z_ml h))
  have hl := lv_entry ([.ref h0]) (n := 1) (Nat.le_of_ble_eq_true rfl)
  rw [lg_entry_eq]
  generalize (lg_sl ([.ref h0]) ++ List.replicate (1 - (lg_sl ([.ref h0])).length) Slot.unset).toArray = ls at hl ⊢
  have hl : lv_has ls 1 [(0, .ref h0)] := hl
  refine lv_aload_n hx hb dX8_takeNot_0 rfl (lv_at hl 0 rfl) ?_
  obtain ⟨hPc, hDc⟩ := z_sub2 (ws' := [(h0, .inr (8, [.ref a_tp, .ref a_t1, .ref a_t2, .ref a_w1, .int uw, .int uo, .int up, .ref a_dr, h0_8])), (a_w1, .inl (ca_w1, 104, .inl fa_w1))]) hP hD [0, 1] (by decide) rfl
  have hKc := hK.sub (tys' := [(ca_w1, .int)]) [0] rfl
  have hFc := va_free (ws := []) (wc := []) (z_D0 _) hS hA [] rfl
  refine va_calli (va_runV (As := []) (rest := []) ⟨hx, hb, hml, hown, hts⟩ (s_X8_lastWaiting l dC dI s.heap.size h0 a_tp a_t1 a_t2 a_w1 uw uo up a_dr h0_8 ca_w1 fa_w1 hB_uw) (cwV 0 hts gw_s_X8_takeNot_s_X8_lastWaiting_150 rfl rfl rfl (by decide +kernel) ⟨Nat.le_of_ble_eq_true rfl, Nat.le_of_ble_eq_true rfl⟩) ⟨z_blind, va_recv hKc hPc (ci := 8) (q0 := 0) rfl rfl, z_pre hPc hKc hDc⟩ rfl rfl hl.1 rfl (lv_room (Nat.le_of_ble_eq_true rfl)) dX8_takeNot_1 ⟨Nat.le_of_ble_eq_true rfl, Nat.le_of_ble_eq_true rfl⟩) hS (fun q _ h => hFc q h) hFc (fun r_2 u t H_1 locs ht hvm hw_3 hB hz1 hk1 hS => ?_)
  replace hP := z_pure hP hk1
  clear hPc hDc hKc
  obtain ⟨hPc, hDc⟩ := z_sub2 (ws' := []) hP hD [] (by decide) rfl
  have hKc := hK.sub (tys' := []) [] rfl
  have hFc := va_free (ws := []) (wc := []) (z_D0 _) hS hA [] rfl
  refine va_calli (va_runS (As := [.int r_2]) (rest := []) ⟨hx, hb, hml, hown, hts⟩ (s_X8_tightness l dC dI H_1.size r_2) (va_cwS 1 hts gw_s_X8_takeNot_s_X8_tightness_103 rfl rfl rfl (by decide +kernel) ⟨Nat.le_of_ble_eq_true rfl, Nat.le_of_ble_eq_true rfl⟩) ⟨z_blind, z_pre hPc hKc hDc⟩ rfl rfl hl.1 rfl (lv_room (Nat.le_of_ble_eq_true rfl)) dX8_takeNot_4 ⟨Nat.le_of_ble_eq_true rfl, Nat.le_of_ble_eq_true rfl⟩) hS (fun q _ h => hFc q h) hFc (fun r_5 u t H_4 locs ht hvm hw_6 hB hz1 hk1 hS => ?_)
  replace hP := z_pure hP hk1
  clear hPc hDc hKc
  refine lv_bipush (v := 30) hx hb dX8_takeNot_7 (by decide) ?_
  obtain ⟨hPc, hDc⟩ := z_sub2 (ws' := []) hP hD [] (by decide) rfl
  have hKc := hK.sub (tys' := []) [] rfl
  have hFc := va_free (ws := []) (wc := []) (z_D0 _) hS hA [] rfl
  refine va_calli (va_runS (As := [.int 30]) (rest := [.int r_5]) ⟨hx, hb, hml, hown, hts⟩ (s_X8_tightness l dC dI H_4.size 30) (va_cwS 1 hts gw_s_X8_takeNot_s_X8_tightness_103 rfl rfl rfl (by decide +kernel) ⟨Nat.le_of_ble_eq_true rfl, Nat.le_of_ble_eq_true rfl⟩) ⟨z_blind, z_pre hPc hKc hDc⟩ rfl rfl hl.1 rfl (lv_room (Nat.le_of_ble_eq_true rfl)) dX8_takeNot_9 ⟨Nat.le_of_ble_eq_true rfl, Nat.le_of_ble_eq_true rfl⟩) hS (fun q _ h => hFc q h) hFc (fun r_8 u t H_7 locs ht hvm hw_9 hB hz1 hk1 hS => ?_)
  replace hP := z_pure hP hk1
  clear hPc hDc hKc
  refine lv_icmp_le (tgt := 24) hx hb dX8_takeNot_12 (by decide) (fun c_10 => ?_) (fun c_10 => ?_)
  · have k_11 : (r_5).toInt ≤ (r_8).toInt := z_le c_10
    refine lv_aload_n hx hb dX8_takeNot_24 rfl (lv_at hl 0 rfl) ?_
    obtain ⟨hPc, hDc, hFc⟩ := z_sub3 (ws' := [(h0, .inr (8, [.ref a_tp, .ref a_t1, .ref a_t2, .ref a_w1, .int uw, .int uo, .int up, .ref a_dr, h0_8])), (a_tp, .inr (10, [.ref a_tb, .int tt, .int ta, .int tj, .int tf, .int ts, .int te, .int to, .int tg, .int tx, .int ty])), (a_tb, .inl (ca_tb, 700, .inl fa_tb)), (a_dr, .inr (7, [.ref a_d1, .ref a_d2, .ref a_d3, .int rl, .int rc, .int rk]))]) hP hD hS hA [0, 2, 3, 4] (by decide) rfl
    have hKc := hK.sub (tys' := [(ca_tb, .int)]) [1] rfl
    refine va_calli (va_runV (As := []) (rest := []) ⟨hx, hb, hml, hown, hts⟩ (s_X8_tieKnot l dC dI H_7.size h0 a_tp a_t1 a_t2 a_w1 uw uo up a_dr h0_8 a_tb tt ta tj tf ts te to tg tx ty ca_tb fa_tb a_d1 a_d2 a_d3 rl rc rk hB_tt hB_ta hB_tf hB_ts hB_te hB_uw hB_uo hB_up hB_rl hB_rc hB_rk hI_a_tb) (cwV 0 hts gw_s_X8_takeNot_s_X8_tieKnot_133 rfl rfl rfl (by decide +kernel) ⟨Nat.le_of_ble_eq_true rfl, Nat.le_of_ble_eq_true rfl⟩) ⟨z_blind, va_recv hKc hPc (ci := 8) (q0 := 0) rfl rfl, z_pre hPc hKc hDc⟩ rfl rfl hl.1 rfl (lv_room (Nat.le_of_ble_eq_true rfl)) dX8_takeNot_25 ⟨Nat.le_of_ble_eq_true rfl, Nat.le_of_ble_eq_true rfl⟩) hS (fun q _ h => hFc q h) hFc (fun r_13 u t H_12 locs ht hvm hw_14 hB hz1 hk1 hS => ?_)
    obtain ⟨n_a_tp_faultSort_15, n_a_tp_faultPlace_16, n_a_dr_knots_17, hp_18, hP1, hK1, hD1⟩ := hB
    rw [ht] at hP1
    have hK1 := va_K.moved hvm.symm hK1
    obtain ⟨hP, hD⟩ := z_ap_1 (va_join (wr := [(a_w1, .inl (ca_w1, 104, .inl fa_w1))]) hP hD [0, 2, 3, 4] [1] rfl rfl (by decide) (by decide) hk1 hFc hP1 hD1)
    clear hPc hDc hKc
    refine lv_if_ne (tgt := 33) hx hb dX8_takeNot_28 (by decide) (fun c_19 => ?_) (fun c_19 => ?_)
    · have k_20 : (r_13).toInt ≠ (0 : Int) := z_ne c_19
      obtain rfl : r_13 = 1 := z_eq' (show (r_13).toInt = (1 : Int) by omega)
      refine lv_aload_n hx hb dX8_takeNot_33 rfl (lv_at hl 0 rfl) ?_
      refine lv_bipush (v := 30) hx hb dX8_takeNot_34 (by decide) ?_
      obtain ⟨hPc, hDc, hFc⟩ := z_sub3 (ws' := [(h0, .inr (8, [.ref a_tp, .ref a_t1, .ref a_t2, .ref a_w1, .int uw, .int uo, .int up, .ref a_dr, h0_8])), (a_w1, .inl (ca_w1, 104, .inl fa_w1))]) hP hD hS hA [1, 0] (by decide) rfl
      have hKc := hK.sub (tys' := [(ca_w1, .int)]) [0] rfl
      refine va_callv (va_runV (As := [.int 30]) (rest := []) ⟨hx, hb, hml, hown, hts⟩ (s_X8_await l dC dI H_12.size h0 30 a_tp a_t1 a_t2 a_w1 uw uo up a_dr h0_8 ca_w1 fa_w1 hB_uw) (cwV 1 hts gw_s_X8_takeNot_s_X8_await_139 rfl rfl rfl (by decide +kernel) ⟨Nat.le_of_ble_eq_true rfl, Nat.le_of_ble_eq_true rfl⟩) ⟨z_blind, va_recv hKc hPc (ci := 8) (q0 := 0) rfl rfl, z_pre hPc hKc hDc⟩ rfl rfl hl.1 rfl (lv_room (Nat.le_of_ble_eq_true rfl)) dX8_takeNot_36 ⟨Nat.le_of_ble_eq_true rfl, Nat.le_of_ble_eq_true rfl⟩) hS (fun q _ h => hFc q h) hFc (fun u t H_22 locs ht hvm hw_24 hB hz1 hk1 hS => ?_)
      obtain ⟨n_h0_waits_25, g_a_w1_26, hp_27, hP1, hK1, hD1⟩ := hB
      rw [ht] at hP1
      have hK1 := va_K.moved hvm.symm hK1
      obtain ⟨hP, hD⟩ := z_ap_3 (va_join (wr := [(a_tp, .inr (10, [.ref a_tb, .int tt, .int ta, .int tj, .int tf, .int ts, .int te, .int to, .int tg, .int n_a_tp_faultSort_15, .int n_a_tp_faultPlace_16])), (a_tb, .inl (ca_tb, 700, .inl fa_tb)), (a_dr, .inr (7, [.ref a_d1, .ref a_d2, .ref a_d3, .int rl, .int rc, .int n_a_dr_knots_17]))]) hP hD [1, 0] [2, 3, 4] rfl rfl (by decide) (by decide) hk1 hFc hP1 hD1)
      clear hPc hDc hKc
      refine lv_iconst (v := 1) hx hb dX8_takeNot_39 (by decide) ?_
      obtain ⟨hP9, hD9⟩ := z_sub2 (ws' := [(h0, .inr (8, [.ref a_tp, .ref a_t1, .ref a_t2, .ref a_w1, .int n_h0_waits_25, .int uo, .int up, .ref a_dr, h0_8])), (a_w1, .inl (ca_w1, 104, .inl g_a_w1_26)), (a_tp, .inr (10, [.ref a_tb, .int tt, .int ta, .int tj, .int tf, .int ts, .int te, .int to, .int tg, .int n_a_tp_faultSort_15, .int n_a_tp_faultPlace_16])), (a_tb, .inl (ca_tb, 700, .inl fa_tb)), (a_dr, .inr (7, [.ref a_d1, .ref a_d2, .ref a_d3, .int rl, .int rc, .int n_a_dr_knots_17]))]) hP hD [3, 4, 0, 1, 2] (by decide) rfl
      have hK9 := hK.sub (tys' := []) [] rfl
      refine W.widen (k := 0) (n := 0) (Nat.le_of_ble_eq_true rfl) (Nat.le_of_ble_eq_true rfl) ?_
      exact W.zret (v := 1) hx hb hr (by rfl) (fun t ht hW => ⟨⟨1, (), rfl, (show ((0 : Int) ≤ (1 : Int) ∧ (1 : Int) ≤ (1 : Int)) by decide), ⟨n_h0_waits_25, g_a_w1_26, n_a_tp_faultSort_15, n_a_tp_faultPlace_16, n_a_dr_knots_17, hp_27, hp_18, by rw [ht]; exact hP9, va_K.moved hW.alike hK9, hD9⟩⟩, hS.F ht⟩) hS.2.2 dX8_takeNot_40
    · have k_28 : (r_13).toInt = (0 : Int) := z_eq c_19
      obtain rfl : r_13 = 0 := z_eq' (show (r_13).toInt = (0 : Int) by omega)
      refine lv_iconst (v := 0) hx hb dX8_takeNot_31 (by decide) ?_
      obtain ⟨hP9, hD9⟩ := z_sub2 (ws' := [(h0, .inr (8, [.ref a_tp, .ref a_t1, .ref a_t2, .ref a_w1, .int uw, .int uo, .int up, .ref a_dr, h0_8])), (a_w1, .inl (ca_w1, 104, .inl fa_w1)), (a_tp, .inr (10, [.ref a_tb, .int tt, .int ta, .int tj, .int tf, .int ts, .int te, .int to, .int tg, .int n_a_tp_faultSort_15, .int n_a_tp_faultPlace_16])), (a_tb, .inl (ca_tb, 700, .inl fa_tb)), (a_dr, .inr (7, [.ref a_d1, .ref a_d2, .ref a_d3, .int rl, .int rc, .int n_a_dr_knots_17]))]) hP hD [1, 0, 2, 3, 4] (by decide) rfl
      have hK9 := hK.sub (tys' := []) [] rfl
      refine W.widen (k := 0) (n := 0) (Nat.le_of_ble_eq_true rfl) (Nat.le_of_ble_eq_true rfl) ?_
      exact W.zret (v := 0) hx hb hr (by rfl) (fun t ht hW => ⟨⟨0, (), rfl, (show ((0 : Int) ≤ (0 : Int) ∧ (0 : Int) ≤ (1 : Int)) by decide), ⟨uw, fa_w1, n_a_tp_faultSort_15, n_a_tp_faultPlace_16, n_a_dr_knots_17, hB_uw, hp_18, by rw [ht]; exact hP9, va_K.moved hW.alike hK9, hD9⟩⟩, hS.F ht⟩) hS.2.2 dX8_takeNot_32
  · have k_30 : (r_5).toInt > (r_8).toInt := z_nle c_10
    refine lv_aload_n hx hb dX8_takeNot_15 rfl (lv_at hl 0 rfl) ?_
    refine va_get (D := (dC, dI)) (ci := 8) (v := .ref a_tp) (C := RX8) (T := TX8) (N := 9) hx hb hts hiX8 hown hK hP 0 rfl rfl 0 (by decide) w__fieldLink_RX8_42_ShellHeap_RulesReader_tape_LShellHeap_Tape_ (fun _ h9 => h9) rfl dX8_takeNot_16 ?_
    refine lv_iconst (v := 1) hx hb dX8_takeNot_19 (by decide) ?_
    obtain ⟨hPc, hDc, hFc⟩ := z_sub3 (ws' := [(a_tp, .inr (10, [.ref a_tb, .int tt, .int ta, .int tj, .int tf, .int ts, .int te, .int to, .int tg, .int tx, .int ty]))]) hP hD hS hA [2] (by decide) rfl
    have hKc := hK.sub (tys' := []) [] rfl
    refine va_calli (va_runV (As := [.int 1]) (rest := []) ⟨hx, hb, hml, hown, hts⟩ (s_X10_fail l dC dI H_7.size a_tp 1 (.ref a_tb) (.int tt) (.int ta) (.int tj) (.int tf) ts (.int te) (.int to) (.int tg) tx ty hB_ts) (cwV 1 hts gw_s_X8_takeNot_s_X10_fail_67 rfl rfl rfl (by decide +kernel) ⟨Nat.le_of_ble_eq_true rfl, Nat.le_of_ble_eq_true rfl⟩) ⟨z_blind, va_recv hKc hPc (ci := 10) (q0 := 0) rfl rfl, z_pre hPc hKc hDc⟩ rfl rfl hl.1 rfl (lv_room (Nat.le_of_ble_eq_true rfl)) dX8_takeNot_20 ⟨Nat.le_of_ble_eq_true rfl, Nat.le_of_ble_eq_true rfl⟩) hS (fun q _ h => hFc q h) hFc (fun r_32 u t H_31 locs ht hvm hw_33 hB hz1 hk1 hS => ?_)
    obtain ⟨n_h0_faultSort_34, n_h0_faultPlace_35, hP1, hK1, hD1⟩ := hB
    rw [ht] at hP1
    have hK1 := va_K.moved hvm.symm hK1
    obtain ⟨hP, hD⟩ := z_ap_4 (va_join (wr := [(h0, .inr (8, [.ref a_tp, .ref a_t1, .ref a_t2, .ref a_w1, .int uw, .int uo, .int up, .ref a_dr, h0_8])), (a_w1, .inl (ca_w1, 104, .inl fa_w1)), (a_tb, .inl (ca_tb, 700, .inl fa_tb)), (a_dr, .inr (7, [.ref a_d1, .ref a_d2, .ref a_d3, .int rl, .int rc, .int rk]))]) hP hD [2] [0, 1, 3, 4] rfl rfl (by decide) (by decide) hk1 hFc hP1 hD1)
    clear hPc hDc hKc
    obtain rfl : r_32 = 0 := hw_33
    obtain ⟨hP9, hD9⟩ := z_sub2 (ws' := [(h0, .inr (8, [.ref a_tp, .ref a_t1, .ref a_t2, .ref a_w1, .int uw, .int uo, .int up, .ref a_dr, h0_8])), (a_w1, .inl (ca_w1, 104, .inl fa_w1)), (a_tp, .inr (10, [.ref a_tb, .int tt, .int ta, .int tj, .int tf, .int ts, .int te, .int to, .int tg, .int n_h0_faultSort_34, .int n_h0_faultPlace_35])), (a_tb, .inl (ca_tb, 700, .inl fa_tb)), (a_dr, .inr (7, [.ref a_d1, .ref a_d2, .ref a_d3, .int rl, .int rc, .int rk]))]) hP hD [0, 1, 4, 2, 3] (by decide) rfl
    have hK9 := hK.sub (tys' := []) [] rfl
    refine W.widen (k := 0) (n := 0) (Nat.le_of_ble_eq_true rfl) (Nat.le_of_ble_eq_true rfl) ?_
    exact W.zret (v := 0) hx hb hr (by rfl) (fun t ht hW => ⟨⟨0, (), rfl, (show ((0 : Int) ≤ (0 : Int) ∧ (0 : Int) ≤ (1 : Int)) by decide), ⟨uw, fa_w1, n_h0_faultSort_34, n_h0_faultPlace_35, rk, hB_uw, hB_rk, by rw [ht]; exact hP9, va_K.moved hW.alike hK9, hD9⟩⟩, hS.F ht⟩) hS.2.2 dX8_takeNot_23
def u_s_X8_joinInHand : List Cond := .code yX8_joinInHand cX8_joinInHand 2 (some .int) :: ([.fieldLink RX8 42 "ShellHeap$RulesReader" "tape" "LShellHeap$Tape;", .methodLink RX8 63 yX10_wordIn, .instanceMethod yX10_wordIn, .selects RX10 yX10_wordIn yX10_wordIn, .initialized RX10, .fieldLink RX8 80 "ShellHeap$Tape" "sign" "I"] ++ (wsX80 ++ (wsX100 ++ (u_s_X10_wordIn ++ []))))
theorem gd_s_X8_joinInHand : z_gd u_s_X8_joinInHand := z_gdc (by decide +kernel) (z_gda gdX8 (z_gda gdX10 (z_gda gd_s_X10_wordIn (z_gd0))))
set_option maxRecDepth 20000 in
theorem gw_s_X8_joinInHand_s_X10_wordIn_63 : GoodIn u_s_X8_joinInHand (wsV RX8 63 RX10 yX10_wordIn u_s_X10_wordIn) := z_gV (z_gr _ [2, 3, 4, 5] rfl (by decide +kernel)) (fun w h => ⟨z_mc (z_mr (z_mr (z_mr (z_ml h)))), gd_s_X10_wordIn w h⟩)
set_option maxHeartbeats 4000000 in
set_option maxRecDepth 100000 in
theorem s_X8_joinInHand (l : Launch) (dC : Nat → ClassId) (dI : Nat → Nat → Nat) (sz : Nat) (sd : Nat → Nat) (sv : Nat → Nat) (sf : Value) (h0 : Nat) (a_tp : Nat) (a_t1 : Nat) (a_t2 : Nat) (a_w1 : Nat) (uw : Int32) (uo : Int32) (up : Int32) (a_dr : Nat) (h0_8 : Value) (a_tb : Nat) (tt : Int32) (ta : Int32) (tj : Int32) (tf : Int32) (ts : Int32) (te : Int32) (to : Int32) (tg : Int32) (tx : Int32) (ty : Int32) (ca_tb : ClassId) (fa_tb : Nat → Int32) (hB_tt : ((0 : Int) ≤ (tt).toInt ∧ (tt).toInt ≤ (700 : Int))) (hB_ta : ((0 : Int) ≤ (ta).toInt ∧ (ta).toInt ≤ (700 : Int))) (hB_tf : ((0 : Int) ≤ (tf).toInt ∧ (tf).toInt ≤ (700 : Int))) (hB_ts : ((0 : Int) ≤ (ts).toInt ∧ (ts).toInt ≤ (700 : Int))) (hB_te : ((0 : Int) ≤ (te).toInt ∧ (te).toInt ≤ (700 : Int))) (hI_a_tb : ∀ j : Nat, ((0 : Int) ≤ (fa_tb j).toInt ∧ (fa_tb j).toInt ≤ (255 : Int))) : Met l yX8_joinInHand u_s_X8_joinInHand ({ frames := 5, cells := 0, slots := 0, locals := 111 }) (va_Pc [.ref h0] (z_CS (dC, dI) vwCl [(h0, .inr (8, [.ref a_tp, .ref a_t1, .ref a_t2, .ref a_w1, .int uw, .int uo, .int up, .ref a_dr, h0_8])), (a_tp, .inr (10, [.ref a_tb, .int tt, .int ta, .int tj, .int tf, .int ts, .int te, .int to, .int tg, .int tx, .int ty])), (a_tb, .inl (ca_tb, 700, .inl fa_tb))] [(ca_tb, .int)] sz sd sv sf [])) (va_Qi (fun (r : Int32) (_ : Unit) => True) (fun (_ : Unit) (_ : State) => True) (va_A [] sz)) 0 0 (va_A [] sz) := by
  refine Met.ofW (cc := cX8_joinInHand) (maxL := 2) (ret := (some .int)) (by decide) rfl ?_
  intro p e s m args below meth c s₁ B hml hv
  obtain ⟨rfl, ⟨hsz, hP, hK, hD0⟩, hST⟩ := hv
  have hx := B.exec
  have hb := B.bytes
  have hr := B.returns
  have hts := atoms_spec (ws := u_s_X8_joinInHand) B.pre
  have hown : s.vm.findClass RX8 = some m.cls := findClass_of_methodNamed B.named
  have hlocks := B.notSynchronized
  subst hsz
  have hD := hD0
  generalize hAe : va_A [] s.heap.size = A at hST ⊢
  have hA : ∀ q : Nat, s.heap.size ≤ q → A q := fun q h => by rw [← hAe]; exact Or.inr h
  have hS : va_S A s.heap s.heap [] := va_S.rf
  have hP : va_P (dC, dI) vwCl [(h0, .inr (8, [.ref a_tp, .ref a_t1, .ref a_t2, .ref a_w1, .int uw, .int uo, .int up, .ref a_dr, h0_8])), (a_tp, .inr (10, [.ref a_tb, .int tt, .int ta, .int tj, .int tf, .int ts, .int te, .int to, .int tg, .int tx, .int ty])), (a_tb, .inl (ca_tb, 700, .inl fa_tb))] s.heap := hP
  have w__fieldLink_RX8_42_ShellHeap_RulesReader_tape_LShellHeap_Tape_ := hts (.fieldLink RX8 42 "ShellHeap$RulesReader" "tape" "LShellHeap$Tape;") (z_mc (z_ml z_m0))
  have hiX8 := show ∀ w ∈ u_ws RX8 TX8 9, w ∈ u_s_X8_joinInHand from fun w h => z_mc (z_mr (z_ml h))
  have w__fieldLink_RX8_80_ShellHeap_Tape_sign_I_ := hts (.fieldLink RX8 80 "ShellHeap$Tape" "sign" "I") (z_mc (z_ml z_m5))
  have hiX10 := show ∀ w ∈ u_ws RX10 TX10 11, w ∈ u_s_X8_joinInHand from fun w h => z_mc (z_mr (z_mr (z_ml h)))
  have hl := lv_entry ([.ref h0]) (n := 2) (Nat.le_of_ble_eq_true rfl)
  rw [lg_entry_eq]
  generalize (lg_sl ([.ref h0]) ++ List.replicate (2 - (lg_sl ([.ref h0])).length) Slot.unset).toArray = ls at hl ⊢
  have hl : lv_has ls 2 [(0, .ref h0)] := hl
  refine lv_aload_n hx hb dX8_joinInHand_0 rfl (lv_at hl 0 rfl) ?_
  refine va_get (D := (dC, dI)) (ci := 8) (v := .ref a_tp) (C := RX8) (T := TX8) (N := 9) hx hb hts hiX8 hown hK hP 0 rfl rfl 0 (by decide) w__fieldLink_RX8_42_ShellHeap_RulesReader_tape_LShellHeap_Tape_ (fun _ h9 => h9) rfl dX8_joinInHand_1 ?_
  refine va_ldcS hx hb hown hST.2.2.2.2.2.2.2.2.2 dX8_joinInHand_4 ?_
  obtain ⟨hPc, hDc⟩ := z_sub2 (ws' := [(a_tp, .inr (10, [.ref a_tb, .int tt, .int ta, .int tj, .int tf, .int ts, .int te, .int to, .int tg, .int tx, .int ty])), (a_tb, .inl (ca_tb, 700, .inl fa_tb))]) hP hD [1, 2] (by decide) rfl
  have hKc := hK
  have hFc := va_free (ws := []) (wc := []) (z_D0 _) hS hA [] rfl
  refine va_calli (va_runV (As := [.ref (sd 6)]) (rest := []) ⟨hx, hb, hml, hown, hts⟩ (s_X10_wordIn l dC dI s.heap.size sd sv sf 6 a_tp a_tb tt (.int ta) (.int tj) (.int tf) ts te to (.int tg) (.int tx) (.int ty) ca_tb fa_tb hB_tt hB_ts hB_te hI_a_tb (by decide)) (cwV 1 hts gw_s_X8_joinInHand_s_X10_wordIn_63 rfl rfl rfl (by decide +kernel) ⟨Nat.le_of_ble_eq_true rfl, Nat.le_of_ble_eq_true rfl⟩) ⟨z_blindS, va_recv hKc hPc (ci := 10) (q0 := 0) rfl rfl, z_preS hPc hKc hDc ((hST.kept hS.2.1).narrow hFc)⟩ rfl rfl hl.1 rfl (lv_room (Nat.le_of_ble_eq_true rfl)) dX8_joinInHand_6 ⟨Nat.le_of_ble_eq_true rfl, Nat.le_of_ble_eq_true rfl⟩) hS (fun q _ h => hFc q h) hFc (fun r_2 u t H_1 locs ht hvm hw_3 hB hz1 hk1 hS => ?_)
  replace hP := z_pure hP hk1
  clear hPc hDc hKc
  refine lv_istore_n (lv' := [(1, .int r_2), (0, .ref h0)]) hx hb dX8_joinInHand_9 rfl hl (by decide) rfl (fun ls hl => ?_)
  refine lv_iload_n hx hb dX8_joinInHand_10 rfl (lv_at hl 0 rfl) ?_
  refine lv_iconst (v := (-1)) hx hb dX8_joinInHand_11 (by decide) ?_
  refine lv_icmp_eq (tgt := 27) hx hb dX8_joinInHand_12 (by decide) (fun c_4 => ?_) (fun c_4 => ?_)
  · have k_5 : (r_2).toInt = (-1 : Int) := z_eq c_4
    obtain rfl : r_2 = (-1) := z_eq' (show (r_2).toInt = (-1 : Int) by omega)
    refine lv_aload_n hx hb dX8_joinInHand_27 rfl (lv_at hl 1 rfl) ?_
    refine va_get (D := (dC, dI)) (ci := 8) (v := .ref a_tp) (C := RX8) (T := TX8) (N := 9) hx hb hts hiX8 hown hK hP 0 rfl rfl 0 (by decide) w__fieldLink_RX8_42_ShellHeap_RulesReader_tape_LShellHeap_Tape_ (fun _ h9 => h9) rfl dX8_joinInHand_28 ?_
    refine va_get (D := (dC, dI)) (ci := 10) (v := .int tg) (C := RX10) (T := TX10) (N := 11) hx hb hts hiX10 hown hK hP 1 rfl rfl 8 (by decide) w__fieldLink_RX8_80_ShellHeap_Tape_sign_I_ (fun _ h9 => h9) rfl dX8_joinInHand_31 ?_
    rcases (Classical.em ((tg).toInt = (42 : Int))) with he_7 | he_7
    · obtain rfl : tg = 42 := z_eq' he_7
      refine lv_lookup (off := 114) (tgt := 148) hx hb dX8_joinInHand_34 (by decide) (by decide) (by decide) ?_
      refine lv_bipush (v := 60) hx hb dX8_joinInHand_148 (by decide) ?_
      refine W.widen (k := 0) (n := 0) (Nat.le_of_ble_eq_true rfl) (Nat.le_of_ble_eq_true rfl) ?_
      exact W.iret (v := 60) hx hb hr (fun t ht hW => ⟨⟨60, (), rfl, trivial, trivial⟩, hS.F ht⟩) hS.2.2 dX8_joinInHand_150
    · skip
      rcases (Classical.em ((tg).toInt = (43 : Int))) with he_8 | he_8
      · obtain rfl : tg = 43 := z_eq' he_8
        refine lv_lookup (off := 108) (tgt := 142) hx hb dX8_joinInHand_34 (by decide) (by decide) (by decide) ?_
        refine lv_bipush (v := 50) hx hb dX8_joinInHand_142 (by decide) ?_
        refine W.widen (k := 0) (n := 0) (Nat.le_of_ble_eq_true rfl) (Nat.le_of_ble_eq_true rfl) ?_
        exact W.iret (v := 50) hx hb hr (fun t ht hW => ⟨⟨50, (), rfl, trivial, trivial⟩, hS.F ht⟩) hS.2.2 dX8_joinInHand_144
      · skip
        rcases (Classical.em ((tg).toInt = (45 : Int))) with he_9 | he_9
        · obtain rfl : tg = 45 := z_eq' he_9
          refine lv_lookup (off := 111) (tgt := 145) hx hb dX8_joinInHand_34 (by decide) (by decide) (by decide) ?_
          refine lv_bipush (v := 51) hx hb dX8_joinInHand_145 (by decide) ?_
          refine W.widen (k := 0) (n := 0) (Nat.le_of_ble_eq_true rfl) (Nat.le_of_ble_eq_true rfl) ?_
          exact W.iret (v := 51) hx hb hr (fun t ht hW => ⟨⟨51, (), rfl, trivial, trivial⟩, hS.F ht⟩) hS.2.2 dX8_joinInHand_147
        · skip
          rcases (Classical.em ((tg).toInt = (47 : Int))) with he_10 | he_10
          · obtain rfl : tg = 47 := z_eq' he_10
            refine lv_lookup (off := 117) (tgt := 151) hx hb dX8_joinInHand_34 (by decide) (by decide) (by decide) ?_
            refine lv_bipush (v := 61) hx hb dX8_joinInHand_151 (by decide) ?_
            refine W.widen (k := 0) (n := 0) (Nat.le_of_ble_eq_true rfl) (Nat.le_of_ble_eq_true rfl) ?_
            exact W.iret (v := 61) hx hb hr (fun t ht hW => ⟨⟨61, (), rfl, trivial, trivial⟩, hS.F ht⟩) hS.2.2 dX8_joinInHand_153
          · skip
            rcases (Classical.em ((tg).toInt = (60 : Int))) with he_11 | he_11
            · obtain rfl : tg = 60 := z_eq' he_11
              refine lv_lookup (off := 90) (tgt := 124) hx hb dX8_joinInHand_34 (by decide) (by decide) (by decide) ?_
              refine lv_bipush (v := 40) hx hb dX8_joinInHand_124 (by decide) ?_
              refine W.widen (k := 0) (n := 0) (Nat.le_of_ble_eq_true rfl) (Nat.le_of_ble_eq_true rfl) ?_
              exact W.iret (v := 40) hx hb hr (fun t ht hW => ⟨⟨40, (), rfl, trivial, trivial⟩, hS.F ht⟩) hS.2.2 dX8_joinInHand_126
            · skip
              rcases (Classical.em ((tg).toInt = (61 : Int))) with he_12 | he_12
              · obtain rfl : tg = 61 := z_eq' he_12
                refine lv_lookup (off := 96) (tgt := 130) hx hb dX8_joinInHand_34 (by decide) (by decide) (by decide) ?_
                refine lv_bipush (v := 42) hx hb dX8_joinInHand_130 (by decide) ?_
                refine W.widen (k := 0) (n := 0) (Nat.le_of_ble_eq_true rfl) (Nat.le_of_ble_eq_true rfl) ?_
                exact W.iret (v := 42) hx hb hr (fun t ht hW => ⟨⟨42, (), rfl, trivial, trivial⟩, hS.F ht⟩) hS.2.2 dX8_joinInHand_132
              · skip
                rcases (Classical.em ((tg).toInt = (62 : Int))) with he_13 | he_13
                · obtain rfl : tg = 62 := z_eq' he_13
                  refine lv_lookup (off := 105) (tgt := 139) hx hb dX8_joinInHand_34 (by decide) (by decide) (by decide) ?_
                  refine lv_bipush (v := 45) hx hb dX8_joinInHand_139 (by decide) ?_
                  refine W.widen (k := 0) (n := 0) (Nat.le_of_ble_eq_true rfl) (Nat.le_of_ble_eq_true rfl) ?_
                  exact W.iret (v := 45) hx hb hr (fun t ht hW => ⟨⟨45, (), rfl, trivial, trivial⟩, hS.F ht⟩) hS.2.2 dX8_joinInHand_141
                · skip
                  rcases (Classical.em ((tg).toInt = (15676 : Int))) with he_14 | he_14
                  · obtain rfl : tg = 15676 := z_eq' he_14
                    refine lv_lookup (off := 93) (tgt := 127) hx hb dX8_joinInHand_34 (by decide) (by decide) (by decide) ?_
                    refine lv_bipush (v := 41) hx hb dX8_joinInHand_127 (by decide) ?_
                    refine W.widen (k := 0) (n := 0) (Nat.le_of_ble_eq_true rfl) (Nat.le_of_ble_eq_true rfl) ?_
                    exact W.iret (v := 41) hx hb hr (fun t ht hW => ⟨⟨41, (), rfl, trivial, trivial⟩, hS.F ht⟩) hS.2.2 dX8_joinInHand_129
                  · skip
                    rcases (Classical.em ((tg).toInt = (15678 : Int))) with he_15 | he_15
                    · obtain rfl : tg = 15678 := z_eq' he_15
                      refine lv_lookup (off := 102) (tgt := 136) hx hb dX8_joinInHand_34 (by decide) (by decide) (by decide) ?_
                      refine lv_bipush (v := 44) hx hb dX8_joinInHand_136 (by decide) ?_
                      refine W.widen (k := 0) (n := 0) (Nat.le_of_ble_eq_true rfl) (Nat.le_of_ble_eq_true rfl) ?_
                      exact W.iret (v := 44) hx hb hr (fun t ht hW => ⟨⟨44, (), rfl, trivial, trivial⟩, hS.F ht⟩) hS.2.2 dX8_joinInHand_138
                    · skip
                      rcases (Classical.em ((tg).toInt = (15932 : Int))) with he_16 | he_16
                      · obtain rfl : tg = 15932 := z_eq' he_16
                        refine lv_lookup (off := 99) (tgt := 133) hx hb dX8_joinInHand_34 (by decide) (by decide) (by decide) ?_
                        refine lv_bipush (v := 43) hx hb dX8_joinInHand_133 (by decide) ?_
                        refine W.widen (k := 0) (n := 0) (Nat.le_of_ble_eq_true rfl) (Nat.le_of_ble_eq_true rfl) ?_
                        exact W.iret (v := 43) hx hb hr (fun t ht hW => ⟨⟨43, (), rfl, trivial, trivial⟩, hS.F ht⟩) hS.2.2 dX8_joinInHand_135
                      · skip
                        refine lv_lookup (off := 120) (tgt := 154) hx hb dX8_joinInHand_34 (by decide) ((lv_osw (k := 42) (fun q => he_7 (z_eq q)) (by decide)).trans ((lv_osw (k := 43) (fun q => he_8 (z_eq q)) (by decide)).trans ((lv_osw (k := 45) (fun q => he_9 (z_eq q)) (by decide)).trans ((lv_osw (k := 47) (fun q => he_10 (z_eq q)) (by decide)).trans ((lv_osw (k := 60) (fun q => he_11 (z_eq q)) (by decide)).trans ((lv_osw (k := 61) (fun q => he_12 (z_eq q)) (by decide)).trans ((lv_osw (k := 62) (fun q => he_13 (z_eq q)) (by decide)).trans ((lv_osw (k := 15676) (fun q => he_14 (z_eq q)) (by decide)).trans ((lv_osw (k := 15678) (fun q => he_15 (z_eq q)) (by decide)).trans ((lv_osw (k := 15932) (fun q => he_16 (z_eq q)) (by decide)).trans (rfl))))))))))) (by decide) ?_
                        refine lv_iconst (v := (-1)) hx hb dX8_joinInHand_154 (by decide) ?_
                        refine W.widen (k := 0) (n := 0) (Nat.le_of_ble_eq_true rfl) (Nat.le_of_ble_eq_true rfl) ?_
                        exact W.iret (v := (-1)) hx hb hr (fun t ht hW => ⟨⟨(-1), (), rfl, trivial, trivial⟩, hS.F ht⟩) hS.2.2 dX8_joinInHand_155
  · have k_17 : (r_2).toInt ≠ (-1 : Int) := z_ne c_4
    refine lv_iload_n hx hb dX8_joinInHand_15 rfl (lv_at hl 0 rfl) ?_
    refine lv_if_ne (tgt := 24) hx hb dX8_joinInHand_16 (by decide) (fun c_18 => ?_) (fun c_18 => ?_)
    · have k_19 : (r_2).toInt ≠ (0 : Int) := z_ne c_18
      refine lv_bipush (v := 20) hx hb dX8_joinInHand_24 (by decide) ?_
      refine W.widen (k := 0) (n := 0) (Nat.le_of_ble_eq_true rfl) (Nat.le_of_ble_eq_true rfl) ?_
      exact W.iret (v := 20) hx hb hr (fun t ht hW => ⟨⟨20, (), rfl, trivial, trivial⟩, hS.F ht⟩) hS.2.2 dX8_joinInHand_26
    · have k_20 : (r_2).toInt = (0 : Int) := z_eq c_18
      obtain rfl : r_2 = 0 := z_eq' (show (r_2).toInt = (0 : Int) by omega)
      refine lv_bipush (v := 10) hx hb dX8_joinInHand_19 (by decide) ?_
      refine lv_goto (tgt := 26) hx hb dX8_joinInHand_21 (by decide) ?_
      refine W.widen (k := 0) (n := 0) (Nat.le_of_ble_eq_true rfl) (Nat.le_of_ble_eq_true rfl) ?_
      exact W.iret (v := 10) hx hb hr (fun t ht hW => ⟨⟨10, (), rfl, trivial, trivial⟩, hS.F ht⟩) hS.2.2 dX8_joinInHand_26
