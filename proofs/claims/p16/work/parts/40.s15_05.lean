def u_s_X8_takeNot : List Cond := .code yX8_takeNot cX8_takeNot 1 (some .boolean) :: ([.methodLink RX8 150 yX8_lastWaiting, .instanceMethod yX8_lastWaiting, .selects RX8 yX8_lastWaiting yX8_lastWaiting, .initialized RX8, .code yX8_lastWaiting cX8_lastWaiting 1 (some .int), .fieldLink RX8 23 "ShellHeap$RulesReader" "waits" "I", .fieldLink RX8 20 "ShellHeap$RulesReader" "waiting" "[I", .methodLink RX8 103 yX8_tightness, .static yX8_tightness, .code yX8_tightness cX8_tightness 1 (some .int), .methodLink RX8 133 yX8_tieKnot, .instanceMethod yX8_tieKnot, .selects RX8 yX8_tieKnot yX8_tieKnot, .code yX8_tieKnot cX8_tieKnot 1 (some .boolean), .fieldLink RX8 35 "ShellHeap$RulesReader" "draft" "LShellHeap$Rules;", .fieldLink RX8 136 "ShellHeap$Rules" "knots" "I", .fieldLink RX8 42 "ShellHeap$RulesReader" "tape" "LShellHeap$Tape;", .methodLink RX8 67 yX10_fail, .instanceMethod yX10_fail, .selects RX10 yX10_fail yX10_fail, .initialized RX10, .code yX10_fail cX10_fail 2 (some .boolean), .fieldLink RX10 41 "ShellHeap$Tape" "faultSort" "I", .fieldLink RX10 29 "ShellHeap$Tape" "start" "I", .fieldLink RX10 44 "ShellHeap$Tape" "faultPlace" "I", .methodLink RX8 139 yX8_await, .instanceMethod yX8_await, .selects RX8 yX8_await yX8_await, .code yX8_await cX8_await 2 none] ++ wsX80 ++ wsX70 ++ wsX100)
set_option maxRecDepth 20000 in
theorem gw_s_X8_takeNot_s_X8_lastWaiting_150 : GoodIn u_s_X8_takeNot (wsV RX8 150 RX8 yX8_lastWaiting u_s_X8_lastWaiting) := z_gr _ [1, 2, 3, 4, 5, 6, 7, 30, 31, 32, 33, 34, 35, 36, 37, 38] rfl (by decide +kernel)
set_option maxRecDepth 20000 in
theorem gw_s_X8_takeNot_s_X8_tightness_103 : GoodIn u_s_X8_takeNot (va_wsS RX8 103 yX8_tightness u_s_X8_tightness) := z_gr _ [8, 9, 4, 10] rfl (by decide +kernel)
set_option maxRecDepth 20000 in
theorem gw_s_X8_takeNot_s_X8_tieKnot_133 : GoodIn u_s_X8_takeNot (wsV RX8 133 RX8 yX8_tieKnot u_s_X8_tieKnot) := z_gr _ [11, 12, 13, 4, 14, 15, 16, 17, 18, 19, 20, 21, 22, 23, 24, 25, 30, 31, 32, 33, 34, 35, 36, 37, 38, 39, 40, 41, 42, 43, 44, 45, 46, 47, 48, 49, 50, 51, 52, 53, 54, 55] rfl (by decide +kernel)
set_option maxRecDepth 20000 in
theorem gw_s_X8_takeNot_s_X8_await_139 : GoodIn u_s_X8_takeNot (wsV RX8 139 RX8 yX8_await u_s_X8_await) := z_gr _ [26, 27, 28, 4, 29, 6, 7, 30, 31, 32, 33, 34, 35, 36, 37, 38] rfl (by decide +kernel)
set_option maxRecDepth 20000 in
theorem gw_s_X8_takeNot_s_X10_fail_67 : GoodIn u_s_X8_takeNot (wsV RX8 67 RX10 yX10_fail u_s_X10_fail) := z_gr _ [18, 19, 20, 21, 22, 23, 24, 25, 45, 46, 47, 48, 49, 50, 51, 52, 53, 54, 55] rfl (by decide +kernel)
set_option maxHeartbeats 4000000 in
set_option maxRecDepth 100000 in
theorem s_X8_takeNot (l : Launch) (dC : Nat → ClassId) (dI : Nat → Nat → Nat) (sz : Nat) (h0 : Nat) (a_tp : Nat) (a_t1 : Nat) (a_t2 : Nat) (a_w1 : Nat) (uw : Int32) (uo : Int32) (up : Int32) (a_dr : Nat) (h0_8 : Value) (ca_w1 : ClassId) (fa_w1 : Nat → Int32) (a_tb : Nat) (tt : Int32) (ta : Int32) (tj : Int32) (tf : Int32) (ts : Int32) (te : Int32) (to : Int32) (tg : Int32) (tx : Int32) (ty : Int32) (ca_tb : ClassId) (fa_tb : Nat → Int32) (a_d1 : Nat) (a_d2 : Nat) (a_d3 : Nat) (rl : Int32) (rc : Int32) (rk : Int32) (hB_tt : ((0 : Int) ≤ (tt).toInt ∧ (tt).toInt ≤ (700 : Int))) (hB_ta : ((0 : Int) ≤ (ta).toInt ∧ (ta).toInt ≤ (700 : Int))) (hB_tf : ((0 : Int) ≤ (tf).toInt ∧ (tf).toInt ≤ (700 : Int))) (hB_ts : ((0 : Int) ≤ (ts).toInt ∧ (ts).toInt ≤ (700 : Int))) (hB_te : ((0 : Int) ≤ (te).toInt ∧ (te).toInt ≤ (700 : Int))) (hB_uw : ((0 : Int) ≤ (uw).toInt ∧ (uw).toInt ≤ (104 : Int))) (hB_uo : ((0 : Int) ≤ (uo).toInt ∧ (uo).toInt ≤ (8 : Int))) (hB_up : ((0 : Int) ≤ (up).toInt ∧ (up).toInt ≤ (1 : Int))) (hB_rl : ((0 : Int) ≤ (rl).toInt ∧ (rl).toInt ≤ (96 : Int))) (hB_rc : ((0 : Int) ≤ (rc).toInt ∧ (rc).toInt ≤ (6 : Int))) (hB_rk : ((0 : Int) ≤ (rk).toInt ∧ (rk).toInt ≤ (96 : Int))) (hI_a_tb : ∀ j : Nat, ((0 : Int) ≤ (fa_tb j).toInt ∧ (fa_tb j).toInt ≤ (255 : Int))) : Met l yX8_takeNot u_s_X8_takeNot ({ frames := 2, cells := 0, slots := 0, locals := 41 }) (va_Pc [.ref h0] (z_C (dC, dI) vwCl [(h0, .inr (8, [.ref a_tp, .ref a_t1, .ref a_t2, .ref a_w1, .int uw, .int uo, .int up, .ref a_dr, h0_8])), (a_w1, .inl (ca_w1, 104, .inl fa_w1)), (a_tp, .inr (10, [.ref a_tb, .int tt, .int ta, .int tj, .int tf, .int ts, .int te, .int to, .int tg, .int tx, .int ty])), (a_tb, .inl (ca_tb, 700, .inl fa_tb)), (a_dr, .inr (7, [.ref a_d1, .ref a_d2, .ref a_d3, .int rl, .int rc, .int rk]))] [(ca_w1, .int), (ca_tb, .int)] sz)) (va_Qi (fun (r : Int32) (_ : Unit) => ((0 : Int) ≤ (r).toInt ∧ (r).toInt ≤ (1 : Int))) (fun (_ : Unit) (t : State) => ∃ (n_h0_waits : Int32), ∃ (g_a_w1 : Nat → Int32), ∃ (n_a_tp_faultSort : Int32), ∃ (n_a_tp_faultPlace : Int32), ∃ (n_a_dr_knots : Int32), ((0 : Int) ≤ (n_h0_waits).toInt ∧ (n_h0_waits).toInt ≤ (104 : Int)) ∧ ((0 : Int) ≤ (n_a_dr_knots).toInt ∧ (n_a_dr_knots).toInt ≤ (96 : Int)) ∧ va_P (dC, dI) vwCl [(h0, .inr (8, [.ref a_tp, .ref a_t1, .ref a_t2, .ref a_w1, .int n_h0_waits, .int uo, .int up, .ref a_dr, h0_8])), (a_w1, .inl (ca_w1, 104, .inl g_a_w1)), (a_tp, .inr (10, [.ref a_tb, .int tt, .int ta, .int tj, .int tf, .int ts, .int te, .int to, .int tg, .int n_a_tp_faultSort, .int n_a_tp_faultPlace])), (a_tb, .inl (ca_tb, 700, .inl fa_tb)), (a_dr, .inr (7, [.ref a_d1, .ref a_d2, .ref a_d3, .int rl, .int rc, .int n_a_dr_knots]))] t.heap ∧ va_K (dC, dI) vwCl [] t ∧ va_D (va_A [(h0, .inr (8, [.ref a_tp, .ref a_t1, .ref a_t2, .ref a_w1, .int uw, .int uo, .int up, .ref a_dr, h0_8])), (a_w1, .inl (ca_w1, 104, .inl fa_w1)), (a_tp, .inr (10, [.ref a_tb, .int tt, .int ta, .int tj, .int tf, .int ts, .int te, .int to, .int tg, .int tx, .int ty])), (a_tb, .inl (ca_tb, 700, .inl fa_tb)), (a_dr, .inr (7, [.ref a_d1, .ref a_d2, .ref a_d3, .int rl, .int rc, .int rk]))] sz) [(h0, .inr (8, [.ref a_tp, .ref a_t1, .ref a_t2, .ref a_w1, .int n_h0_waits, .int uo, .int up, .ref a_dr, h0_8])), (a_w1, .inl (ca_w1, 104, .inl g_a_w1)), (a_tp, .inr (10, [.ref a_tb, .int tt, .int ta, .int tj, .int tf, .int ts, .int te, .int to, .int tg, .int n_a_tp_faultSort, .int n_a_tp_faultPlace])), (a_tb, .inl (ca_tb, 700, .inl fa_tb)), (a_dr, .inr (7, [.ref a_d1, .ref a_d2, .ref a_d3, .int rl, .int rc, .int n_a_dr_knots]))]) (va_A [(h0, .inr (8, [.ref a_tp, .ref a_t1, .ref a_t2, .ref a_w1, .int uw, .int uo, .int up, .ref a_dr, h0_8])), (a_w1, .inl (ca_w1, 104, .inl fa_w1)), (a_tp, .inr (10, [.ref a_tb, .int tt, .int ta, .int tj, .int tf, .int ts, .int te, .int to, .int tg, .int tx, .int ty])), (a_tb, .inl (ca_tb, 700, .inl fa_tb)), (a_dr, .inr (7, [.ref a_d1, .ref a_d2, .ref a_d3, .int rl, .int rc, .int rk]))] sz)) 0 0 (va_A [(h0, .inr (8, [.ref a_tp, .ref a_t1, .ref a_t2, .ref a_w1, .int uw, .int uo, .int up, .ref a_dr, h0_8])), (a_w1, .inl (ca_w1, 104, .inl fa_w1)), (a_tp, .inr (10, [.ref a_tb, .int tt, .int ta, .int tj, .int tf, .int ts, .int te, .int to, .int tg, .int tx, .int ty])), (a_tb, .inl (ca_tb, 700, .inl fa_tb)), (a_dr, .inr (7, [.ref a_d1, .ref a_d2, .ref a_d3, .int rl, .int rc, .int rk]))] sz) := by
  refine Met.ofW (cc := cX8_takeNot) (maxL := 1) (ret := (some .boolean)) (by decide) rfl ?_
  intro p e s m args below meth c s₁ B hml hv
  obtain ⟨rfl, hsz, hP, hK, hD0⟩ := hv
  have hx := B.exec
  have hb := B.bytes
  have hr := B.returns
  have hts := atoms_spec (ws := u_s_X8_takeNot) B.pre
  have hown : s.vm.findClass RX8 = some m.cls := findClass_of_methodNamed B.named
  have hlocks := B.notSynchronized
  subst hsz
  have hD := hD0.self (sz := s.heap.size)
  generalize hAe : va_A [(h0, .inr (8, [.ref a_tp, .ref a_t1, .ref a_t2, .ref a_w1, .int uw, .int uo, .int up, .ref a_dr, h0_8])), (a_w1, .inl (ca_w1, 104, .inl fa_w1)), (a_tp, .inr (10, [.ref a_tb, .int tt, .int ta, .int tj, .int tf, .int ts, .int te, .int to, .int tg, .int tx, .int ty])), (a_tb, .inl (ca_tb, 700, .inl fa_tb)), (a_dr, .inr (7, [.ref a_d1, .ref a_d2, .ref a_d3, .int rl, .int rc, .int rk]))] s.heap.size = A at hD ⊢
  have hA : ∀ q : Nat, s.heap.size ≤ q → A q := fun q h => by rw [← hAe]; exact Or.inr h
  have hS : va_S A s.heap s.heap [] := va_S.rf
  have hP : va_P (dC, dI) vwCl [(h0, .inr (8, [.ref a_tp, .ref a_t1, .ref a_t2, .ref a_w1, .int uw, .int uo, .int up, .ref a_dr, h0_8])), (a_w1, .inl (ca_w1, 104, .inl fa_w1)), (a_tp, .inr (10, [.ref a_tb, .int tt, .int ta, .int tj, .int tf, .int ts, .int te, .int to, .int tg, .int tx, .int ty])), (a_tb, .inl (ca_tb, 700, .inl fa_tb)), (a_dr, .inr (7, [.ref a_d1, .ref a_d2, .ref a_d3, .int rl, .int rc, .int rk]))] s.heap := hP
  have w__fieldLink_RX8_42_ShellHeap_RulesReader_tape_LShellHeap_Tape_ := hts (.fieldLink RX8 42 "ShellHeap$RulesReader" "tape" "LShellHeap$Tape;") (by decide +kernel)
  have hiX8 := show ∀ w ∈ u_ws RX8 TX8 9, w ∈ u_s_X8_takeNot by decide +kernel
  have hl := lv_entry ([.ref h0]) (n := 1) (Nat.le_of_ble_eq_true rfl)
  rw [lg_entry_eq]
  generalize (lg_sl ([.ref h0]) ++ List.replicate (1 - (lg_sl ([.ref h0])).length) Slot.unset).toArray = ls at hl ⊢
  have hl : lv_has ls 1 [(0, .ref h0)] := hl
  refine lv_aload_n hx hb dX8_takeNot_0 rfl (lv_at hl 0 rfl) ?_
  have hPc := hP.sub (ws' := [(h0, .inr (8, [.ref a_tp, .ref a_t1, .ref a_t2, .ref a_w1, .int uw, .int uo, .int up, .ref a_dr, h0_8])), (a_w1, .inl (ca_w1, 104, .inl fa_w1))]) [0, 1] rfl
  have hDc := hD.sub (ws' := [(h0, .inr (8, [.ref a_tp, .ref a_t1, .ref a_t2, .ref a_w1, .int uw, .int uo, .int up, .ref a_dr, h0_8])), (a_w1, .inl (ca_w1, 104, .inl fa_w1))]) [0, 1] (by decide) rfl
  have hKc := hK.sub (tys' := [(ca_w1, .int)]) [0] rfl
  have hFc := va_free (ws := []) (wc := []) (z_D0 _) hS hA [] rfl
  refine va_calli (va_runV (As := []) (rest := []) ⟨hx, hb, hml, hown, hts⟩ (s_X8_lastWaiting l dC dI s.heap.size h0 a_tp a_t1 a_t2 a_w1 uw uo up a_dr h0_8 ca_w1 fa_w1 (by first | omega | decide)) (cwV 0 hts gw_s_X8_takeNot_s_X8_lastWaiting_150 rfl rfl rfl (by decide +kernel) ⟨Nat.le_of_ble_eq_true rfl, Nat.le_of_ble_eq_true rfl⟩) ⟨z_blind, va_recv hKc hPc (ci := 8) (q0 := 0) rfl rfl, z_pre hPc hKc hDc⟩ rfl rfl hl.1 rfl (lv_room (Nat.le_of_ble_eq_true rfl)) dX8_takeNot_1 ⟨Nat.le_of_ble_eq_true rfl, Nat.le_of_ble_eq_true rfl⟩) hS (fun q _ h => hFc q h) hFc (fun r_2 u t H_1 locs ht hvm hw_3 hB hz1 hk1 hS => ?_)
  have hP := z_pure hP hk1
  have hP : va_P (dC, dI) vwCl [(h0, .inr (8, [.ref a_tp, .ref a_t1, .ref a_t2, .ref a_w1, .int uw, .int uo, .int up, .ref a_dr, h0_8])), (a_w1, .inl (ca_w1, 104, .inl fa_w1)), (a_tp, .inr (10, [.ref a_tb, .int tt, .int ta, .int tj, .int tf, .int ts, .int te, .int to, .int tg, .int tx, .int ty])), (a_tb, .inl (ca_tb, 700, .inl fa_tb)), (a_dr, .inr (7, [.ref a_d1, .ref a_d2, .ref a_d3, .int rl, .int rc, .int rk]))] H_1 := hP
  have hD : va_D A [(h0, .inr (8, [.ref a_tp, .ref a_t1, .ref a_t2, .ref a_w1, .int uw, .int uo, .int up, .ref a_dr, h0_8])), (a_w1, .inl (ca_w1, 104, .inl fa_w1)), (a_tp, .inr (10, [.ref a_tb, .int tt, .int ta, .int tj, .int tf, .int ts, .int te, .int to, .int tg, .int tx, .int ty])), (a_tb, .inl (ca_tb, 700, .inl fa_tb)), (a_dr, .inr (7, [.ref a_d1, .ref a_d2, .ref a_d3, .int rl, .int rc, .int rk]))] := hD
  clear hPc hDc hKc
  have hPc := hP.sub (ws' := []) [] rfl
  have hDc := hD.sub (ws' := []) [] (by decide) rfl
  have hKc := hK.sub (tys' := []) [] rfl
  have hFc := va_free (ws := []) (wc := []) (z_D0 _) hS hA [] rfl
  refine va_calli (va_runS (As := [.int r_2]) (rest := []) ⟨hx, hb, hml, hown, hts⟩ (s_X8_tightness l dC dI H_1.size r_2) (va_cwS 1 hts gw_s_X8_takeNot_s_X8_tightness_103 rfl rfl rfl (by decide +kernel) ⟨Nat.le_of_ble_eq_true rfl, Nat.le_of_ble_eq_true rfl⟩) ⟨z_blind, z_pre hPc hKc hDc⟩ rfl rfl hl.1 rfl (lv_room (Nat.le_of_ble_eq_true rfl)) dX8_takeNot_4 ⟨Nat.le_of_ble_eq_true rfl, Nat.le_of_ble_eq_true rfl⟩) hS (fun q _ h => hFc q h) hFc (fun r_5 u t H_4 locs ht hvm hw_6 hB hz1 hk1 hS => ?_)
  have hP := z_pure hP hk1
  have hP : va_P (dC, dI) vwCl [(h0, .inr (8, [.ref a_tp, .ref a_t1, .ref a_t2, .ref a_w1, .int uw, .int uo, .int up, .ref a_dr, h0_8])), (a_w1, .inl (ca_w1, 104, .inl fa_w1)), (a_tp, .inr (10, [.ref a_tb, .int tt, .int ta, .int tj, .int tf, .int ts, .int te, .int to, .int tg, .int tx, .int ty])), (a_tb, .inl (ca_tb, 700, .inl fa_tb)), (a_dr, .inr (7, [.ref a_d1, .ref a_d2, .ref a_d3, .int rl, .int rc, .int rk]))] H_4 := hP
  have hD : va_D A [(h0, .inr (8, [.ref a_tp, .ref a_t1, .ref a_t2, .ref a_w1, .int uw, .int uo, .int up, .ref a_dr, h0_8])), (a_w1, .inl (ca_w1, 104, .inl fa_w1)), (a_tp, .inr (10, [.ref a_tb, .int tt, .int ta, .int tj, .int tf, .int ts, .int te, .int to, .int tg, .int tx, .int ty])), (a_tb, .inl (ca_tb, 700, .inl fa_tb)), (a_dr, .inr (7, [.ref a_d1, .ref a_d2, .ref a_d3, .int rl, .int rc, .int rk]))] := hD
  clear hPc hDc hKc
  refine lv_bipush (v := 30) hx hb dX8_takeNot_7 (by decide) ?_
  have hPc := hP.sub (ws' := []) [] rfl
  have hDc := hD.sub (ws' := []) [] (by decide) rfl
  have hKc := hK.sub (tys' := []) [] rfl
  have hFc := va_free (ws := []) (wc := []) (z_D0 _) hS hA [] rfl
  refine va_calli (va_runS (As := [.int 30]) (rest := [.int r_5]) ⟨hx, hb, hml, hown, hts⟩ (s_X8_tightness l dC dI H_4.size 30) (va_cwS 1 hts gw_s_X8_takeNot_s_X8_tightness_103 rfl rfl rfl (by decide +kernel) ⟨Nat.le_of_ble_eq_true rfl, Nat.le_of_ble_eq_true rfl⟩) ⟨z_blind, z_pre hPc hKc hDc⟩ rfl rfl hl.1 rfl (lv_room (Nat.le_of_ble_eq_true rfl)) dX8_takeNot_9 ⟨Nat.le_of_ble_eq_true rfl, Nat.le_of_ble_eq_true rfl⟩) hS (fun q _ h => hFc q h) hFc (fun r_8 u t H_7 locs ht hvm hw_9 hB hz1 hk1 hS => ?_)
  have hP := z_pure hP hk1
  have hP : va_P (dC, dI) vwCl [(h0, .inr (8, [.ref a_tp, .ref a_t1, .ref a_t2, .ref a_w1, .int uw, .int uo, .int up, .ref a_dr, h0_8])), (a_w1, .inl (ca_w1, 104, .inl fa_w1)), (a_tp, .inr (10, [.ref a_tb, .int tt, .int ta, .int tj, .int tf, .int ts, .int te, .int to, .int tg, .int tx, .int ty])), (a_tb, .inl (ca_tb, 700, .inl fa_tb)), (a_dr, .inr (7, [.ref a_d1, .ref a_d2, .ref a_d3, .int rl, .int rc, .int rk]))] H_7 := hP
  have hD : va_D A [(h0, .inr (8, [.ref a_tp, .ref a_t1, .ref a_t2, .ref a_w1, .int uw, .int uo, .int up, .ref a_dr, h0_8])), (a_w1, .inl (ca_w1, 104, .inl fa_w1)), (a_tp, .inr (10, [.ref a_tb, .int tt, .int ta, .int tj, .int tf, .int ts, .int te, .int to, .int tg, .int tx, .int ty])), (a_tb, .inl (ca_tb, 700, .inl fa_tb)), (a_dr, .inr (7, [.ref a_d1, .ref a_d2, .ref a_d3, .int rl, .int rc, .int rk]))] := hD
  clear hPc hDc hKc
  refine lv_icmp_le (tgt := 24) hx hb dX8_takeNot_12 (by decide) (fun c_10 => ?_) (fun c_10 => ?_)
  · have k_11 : (r_5).toInt ≤ (r_8).toInt := z_le c_10
    refine lv_aload_n hx hb dX8_takeNot_24 rfl (lv_at hl 0 rfl) ?_
    have hPc := hP.sub (ws' := [(h0, .inr (8, [.ref a_tp, .ref a_t1, .ref a_t2, .ref a_w1, .int uw, .int uo, .int up, .ref a_dr, h0_8])), (a_tp, .inr (10, [.ref a_tb, .int tt, .int ta, .int tj, .int tf, .int ts, .int te, .int to, .int tg, .int tx, .int ty])), (a_tb, .inl (ca_tb, 700, .inl fa_tb)), (a_dr, .inr (7, [.ref a_d1, .ref a_d2, .ref a_d3, .int rl, .int rc, .int rk]))]) [0, 2, 3, 4] rfl
    have hDc := hD.sub (ws' := [(h0, .inr (8, [.ref a_tp, .ref a_t1, .ref a_t2, .ref a_w1, .int uw, .int uo, .int up, .ref a_dr, h0_8])), (a_tp, .inr (10, [.ref a_tb, .int tt, .int ta, .int tj, .int tf, .int ts, .int te, .int to, .int tg, .int tx, .int ty])), (a_tb, .inl (ca_tb, 700, .inl fa_tb)), (a_dr, .inr (7, [.ref a_d1, .ref a_d2, .ref a_d3, .int rl, .int rc, .int rk]))]) [0, 2, 3, 4] (by decide) rfl
    have hKc := hK.sub (tys' := [(ca_tb, .int)]) [1] rfl
    have hFc := va_free (wc := [(h0, .inr (8, [.ref a_tp, .ref a_t1, .ref a_t2, .ref a_w1, .int uw, .int uo, .int up, .ref a_dr, h0_8])), (a_tp, .inr (10, [.ref a_tb, .int tt, .int ta, .int tj, .int tf, .int ts, .int te, .int to, .int tg, .int tx, .int ty])), (a_tb, .inl (ca_tb, 700, .inl fa_tb)), (a_dr, .inr (7, [.ref a_d1, .ref a_d2, .ref a_d3, .int rl, .int rc, .int rk]))]) hD hS hA [0, 2, 3, 4] rfl
    refine va_calli (va_runV (As := []) (rest := []) ⟨hx, hb, hml, hown, hts⟩ (s_X8_tieKnot l dC dI H_7.size h0 a_tp a_t1 a_t2 a_w1 uw uo up a_dr h0_8 a_tb tt ta tj tf ts te to tg tx ty ca_tb fa_tb a_d1 a_d2 a_d3 rl rc rk (by first | omega | decide) (by first | omega | decide) (by first | omega | decide) (by first | omega | decide) (by first | omega | decide) (by first | omega | decide) (by first | omega | decide) (by first | omega | decide) (by first | omega | decide) (by first | omega | decide) (by first | omega | decide) hI_a_tb) (cwV 0 hts gw_s_X8_takeNot_s_X8_tieKnot_133 rfl rfl rfl (by decide +kernel) ⟨Nat.le_of_ble_eq_true rfl, Nat.le_of_ble_eq_true rfl⟩) ⟨z_blind, va_recv hKc hPc (ci := 8) (q0 := 0) rfl rfl, z_pre hPc hKc hDc⟩ rfl rfl hl.1 rfl (lv_room (Nat.le_of_ble_eq_true rfl)) dX8_takeNot_25 ⟨Nat.le_of_ble_eq_true rfl, Nat.le_of_ble_eq_true rfl⟩) hS (fun q _ h => hFc q h) hFc (fun r_13 u t H_12 locs ht hvm hw_14 hB hz1 hk1 hS => ?_)
    obtain ⟨n_a_tp_faultSort_15, n_a_tp_faultPlace_16, n_a_dr_knots_17, hp_18, hP1, hK1, hD1⟩ := hB
    rw [ht] at hP1
    have hK1 := va_K.moved hvm.symm hK1
    obtain ⟨hP, hD⟩ := va_join (wr := [(a_w1, .inl (ca_w1, 104, .inl fa_w1))]) (w1 := [(h0, .inr (8, [.ref a_tp, .ref a_t1, .ref a_t2, .ref a_w1, .int uw, .int uo, .int up, .ref a_dr, h0_8])), (a_tp, .inr (10, [.ref a_tb, .int tt, .int ta, .int tj, .int tf, .int ts, .int te, .int to, .int tg, .int n_a_tp_faultSort_15, .int n_a_tp_faultPlace_16])), (a_tb, .inl (ca_tb, 700, .inl fa_tb)), (a_dr, .inr (7, [.ref a_d1, .ref a_d2, .ref a_d3, .int rl, .int rc, .int n_a_dr_knots_17]))]) hP hD [0, 2, 3, 4] [1] rfl rfl (by decide) (by decide) hk1 hFc hP1 hD1
    have hP : va_P (dC, dI) vwCl [(a_w1, .inl (ca_w1, 104, .inl fa_w1)), (h0, .inr (8, [.ref a_tp, .ref a_t1, .ref a_t2, .ref a_w1, .int uw, .int uo, .int up, .ref a_dr, h0_8])), (a_tp, .inr (10, [.ref a_tb, .int tt, .int ta, .int tj, .int tf, .int ts, .int te, .int to, .int tg, .int n_a_tp_faultSort_15, .int n_a_tp_faultPlace_16])), (a_tb, .inl (ca_tb, 700, .inl fa_tb)), (a_dr, .inr (7, [.ref a_d1, .ref a_d2, .ref a_d3, .int rl, .int rc, .int n_a_dr_knots_17]))] H_12 := hP
    have hD : va_D A [(a_w1, .inl (ca_w1, 104, .inl fa_w1)), (h0, .inr (8, [.ref a_tp, .ref a_t1, .ref a_t2, .ref a_w1, .int uw, .int uo, .int up, .ref a_dr, h0_8])), (a_tp, .inr (10, [.ref a_tb, .int tt, .int ta, .int tj, .int tf, .int ts, .int te, .int to, .int tg, .int n_a_tp_faultSort_15, .int n_a_tp_faultPlace_16])), (a_tb, .inl (ca_tb, 700, .inl fa_tb)), (a_dr, .inr (7, [.ref a_d1, .ref a_d2, .ref a_d3, .int rl, .int rc, .int n_a_dr_knots_17]))] := hD
    clear hPc hDc hKc
    refine lv_if_ne (tgt := 33) hx hb dX8_takeNot_28 (by decide) (fun c_19 => ?_) (fun c_19 => ?_)
    · have k_20 : (r_13).toInt ≠ (0 : Int) := z_ne c_19
      obtain rfl : r_13 = 1 := z_eq' (show (r_13).toInt = (1 : Int) by omega)
      refine lv_aload_n hx hb dX8_takeNot_33 rfl (lv_at hl 0 rfl) ?_
      refine lv_bipush (v := 30) hx hb dX8_takeNot_34 (by decide) ?_
      have hPc := hP.sub (ws' := [(h0, .inr (8, [.ref a_tp, .ref a_t1, .ref a_t2, .ref a_w1, .int uw, .int uo, .int up, .ref a_dr, h0_8])), (a_w1, .inl (ca_w1, 104, .inl fa_w1))]) [1, 0] rfl
      have hDc := hD.sub (ws' := [(h0, .inr (8, [.ref a_tp, .ref a_t1, .ref a_t2, .ref a_w1, .int uw, .int uo, .int up, .ref a_dr, h0_8])), (a_w1, .inl (ca_w1, 104, .inl fa_w1))]) [1, 0] (by decide) rfl
      have hKc := hK.sub (tys' := [(ca_w1, .int)]) [0] rfl
      have hFc := va_free (wc := [(h0, .inr (8, [.ref a_tp, .ref a_t1, .ref a_t2, .ref a_w1, .int uw, .int uo, .int up, .ref a_dr, h0_8])), (a_w1, .inl (ca_w1, 104, .inl fa_w1))]) hD hS hA [1, 0] rfl
      refine va_callv (va_runV (As := [.int 30]) (rest := []) ⟨hx, hb, hml, hown, hts⟩ (s_X8_await l dC dI H_12.size h0 30 a_tp a_t1 a_t2 a_w1 uw uo up a_dr h0_8 ca_w1 fa_w1 (by first | omega | decide)) (cwV 1 hts gw_s_X8_takeNot_s_X8_await_139 rfl rfl rfl (by decide +kernel) ⟨Nat.le_of_ble_eq_true rfl, Nat.le_of_ble_eq_true rfl⟩) ⟨z_blind, va_recv hKc hPc (ci := 8) (q0 := 0) rfl rfl, z_pre hPc hKc hDc⟩ rfl rfl hl.1 rfl (lv_room (Nat.le_of_ble_eq_true rfl)) dX8_takeNot_36 ⟨Nat.le_of_ble_eq_true rfl, Nat.le_of_ble_eq_true rfl⟩) hS (fun q _ h => hFc q h) hFc (fun u t H_22 locs ht hvm hw_24 hB hz1 hk1 hS => ?_)
      obtain ⟨n_h0_waits_25, g_a_w1_26, hp_27, hP1, hK1, hD1⟩ := hB
      rw [ht] at hP1
      have hK1 := va_K.moved hvm.symm hK1
      obtain ⟨hP, hD⟩ := va_join (wr := [(a_tp, .inr (10, [.ref a_tb, .int tt, .int ta, .int tj, .int tf, .int ts, .int te, .int to, .int tg, .int n_a_tp_faultSort_15, .int n_a_tp_faultPlace_16])), (a_tb, .inl (ca_tb, 700, .inl fa_tb)), (a_dr, .inr (7, [.ref a_d1, .ref a_d2, .ref a_d3, .int rl, .int rc, .int n_a_dr_knots_17]))]) (w1 := [(h0, .inr (8, [.ref a_tp, .ref a_t1, .ref a_t2, .ref a_w1, .int n_h0_waits_25, .int uo, .int up, .ref a_dr, h0_8])), (a_w1, .inl (ca_w1, 104, .inl g_a_w1_26))]) hP hD [1, 0] [2, 3, 4] rfl rfl (by decide) (by decide) hk1 hFc hP1 hD1
      have hP : va_P (dC, dI) vwCl [(a_tp, .inr (10, [.ref a_tb, .int tt, .int ta, .int tj, .int tf, .int ts, .int te, .int to, .int tg, .int n_a_tp_faultSort_15, .int n_a_tp_faultPlace_16])), (a_tb, .inl (ca_tb, 700, .inl fa_tb)), (a_dr, .inr (7, [.ref a_d1, .ref a_d2, .ref a_d3, .int rl, .int rc, .int n_a_dr_knots_17])), (h0, .inr (8, [.ref a_tp, .ref a_t1, .ref a_t2, .ref a_w1, .int n_h0_waits_25, .int uo, .int up, .ref a_dr, h0_8])), (a_w1, .inl (ca_w1, 104, .inl g_a_w1_26))] H_22 := hP
      have hD : va_D A [(a_tp, .inr (10, [.ref a_tb, .int tt, .int ta, .int tj, .int tf, .int ts, .int te, .int to, .int tg, .int n_a_tp_faultSort_15, .int n_a_tp_faultPlace_16])), (a_tb, .inl (ca_tb, 700, .inl fa_tb)), (a_dr, .inr (7, [.ref a_d1, .ref a_d2, .ref a_d3, .int rl, .int rc, .int n_a_dr_knots_17])), (h0, .inr (8, [.ref a_tp, .ref a_t1, .ref a_t2, .ref a_w1, .int n_h0_waits_25, .int uo, .int up, .ref a_dr, h0_8])), (a_w1, .inl (ca_w1, 104, .inl g_a_w1_26))] := hD
      clear hPc hDc hKc
      refine lv_iconst (v := 1) hx hb dX8_takeNot_39 (by decide) ?_
      have hP9 := hP.sub (ws' := [(h0, .inr (8, [.ref a_tp, .ref a_t1, .ref a_t2, .ref a_w1, .int n_h0_waits_25, .int uo, .int up, .ref a_dr, h0_8])), (a_w1, .inl (ca_w1, 104, .inl g_a_w1_26)), (a_tp, .inr (10, [.ref a_tb, .int tt, .int ta, .int tj, .int tf, .int ts, .int te, .int to, .int tg, .int n_a_tp_faultSort_15, .int n_a_tp_faultPlace_16])), (a_tb, .inl (ca_tb, 700, .inl fa_tb)), (a_dr, .inr (7, [.ref a_d1, .ref a_d2, .ref a_d3, .int rl, .int rc, .int n_a_dr_knots_17]))]) [3, 4, 0, 1, 2] rfl
      have hD9 := hD.sub (ws' := [(h0, .inr (8, [.ref a_tp, .ref a_t1, .ref a_t2, .ref a_w1, .int n_h0_waits_25, .int uo, .int up, .ref a_dr, h0_8])), (a_w1, .inl (ca_w1, 104, .inl g_a_w1_26)), (a_tp, .inr (10, [.ref a_tb, .int tt, .int ta, .int tj, .int tf, .int ts, .int te, .int to, .int tg, .int n_a_tp_faultSort_15, .int n_a_tp_faultPlace_16])), (a_tb, .inl (ca_tb, 700, .inl fa_tb)), (a_dr, .inr (7, [.ref a_d1, .ref a_d2, .ref a_d3, .int rl, .int rc, .int n_a_dr_knots_17]))]) [3, 4, 0, 1, 2] (by decide) rfl
      have hK9 := hK.sub (tys' := []) [] rfl
      refine W.widen (k := 0) (n := 0) (Nat.le_of_ble_eq_true rfl) (Nat.le_of_ble_eq_true rfl) ?_
      exact W.zret (v := 1) hx hb hr (by rfl) (fun t ht hW => ⟨⟨1, (), rfl, (show ((0 : Int) ≤ (1 : Int) ∧ (1 : Int) ≤ (1 : Int)) by omega), ⟨n_h0_waits_25, g_a_w1_26, n_a_tp_faultSort_15, n_a_tp_faultPlace_16, n_a_dr_knots_17, (by first | omega | decide), (by first | omega | decide), by rw [ht]; exact hP9, va_K.moved hW.alike hK9, hD9⟩⟩, hS.F ht⟩) hS.2.2 dX8_takeNot_40
    · have k_28 : (r_13).toInt = (0 : Int) := z_eq c_19
      obtain rfl : r_13 = 0 := z_eq' (show (r_13).toInt = (0 : Int) by omega)
      refine lv_iconst (v := 0) hx hb dX8_takeNot_31 (by decide) ?_
      have hP9 := hP.sub (ws' := [(h0, .inr (8, [.ref a_tp, .ref a_t1, .ref a_t2, .ref a_w1, .int uw, .int uo, .int up, .ref a_dr, h0_8])), (a_w1, .inl (ca_w1, 104, .inl fa_w1)), (a_tp, .inr (10, [.ref a_tb, .int tt, .int ta, .int tj, .int tf, .int ts, .int te, .int to, .int tg, .int n_a_tp_faultSort_15, .int n_a_tp_faultPlace_16])), (a_tb, .inl (ca_tb, 700, .inl fa_tb)), (a_dr, .inr (7, [.ref a_d1, .ref a_d2, .ref a_d3, .int rl, .int rc, .int n_a_dr_knots_17]))]) [1, 0, 2, 3, 4] rfl
      have hD9 := hD.sub (ws' := [(h0, .inr (8, [.ref a_tp, .ref a_t1, .ref a_t2, .ref a_w1, .int uw, .int uo, .int up, .ref a_dr, h0_8])), (a_w1, .inl (ca_w1, 104, .inl fa_w1)), (a_tp, .inr (10, [.ref a_tb, .int tt, .int ta, .int tj, .int tf, .int ts, .int te, .int to, .int tg, .int n_a_tp_faultSort_15, .int n_a_tp_faultPlace_16])), (a_tb, .inl (ca_tb, 700, .inl fa_tb)), (a_dr, .inr (7, [.ref a_d1, .ref a_d2, .ref a_d3, .int rl, .int rc, .int n_a_dr_knots_17]))]) [1, 0, 2, 3, 4] (by decide) rfl
      have hK9 := hK.sub (tys' := []) [] rfl
      refine W.widen (k := 0) (n := 0) (Nat.le_of_ble_eq_true rfl) (Nat.le_of_ble_eq_true rfl) ?_
      exact W.zret (v := 0) hx hb hr (by rfl) (fun t ht hW => ⟨⟨0, (), rfl, (show ((0 : Int) ≤ (0 : Int) ∧ (0 : Int) ≤ (1 : Int)) by omega), ⟨uw, fa_w1, n_a_tp_faultSort_15, n_a_tp_faultPlace_16, n_a_dr_knots_17, (by first | omega | decide), (by first | omega | decide), by rw [ht]; exact hP9, va_K.moved hW.alike hK9, hD9⟩⟩, hS.F ht⟩) hS.2.2 dX8_takeNot_32
  · have k_30 : (r_5).toInt > (r_8).toInt := z_nle c_10
    refine lv_aload_n hx hb dX8_takeNot_15 rfl (lv_at hl 0 rfl) ?_
    refine va_get (D := (dC, dI)) (ci := 8) (v := .ref a_tp) (C := RX8) (T := TX8) (N := 9) hx hb hts hiX8 hown hK hP 0 rfl rfl 0 (by decide) w__fieldLink_RX8_42_ShellHeap_RulesReader_tape_LShellHeap_Tape_ (fun _ h9 => h9) rfl dX8_takeNot_16 ?_
    refine lv_iconst (v := 1) hx hb dX8_takeNot_19 (by decide) ?_
    have hPc := hP.sub (ws' := [(a_tp, .inr (10, [.ref a_tb, .int tt, .int ta, .int tj, .int tf, .int ts, .int te, .int to, .int tg, .int tx, .int ty]))]) [2] rfl
    have hDc := hD.sub (ws' := [(a_tp, .inr (10, [.ref a_tb, .int tt, .int ta, .int tj, .int tf, .int ts, .int te, .int to, .int tg, .int tx, .int ty]))]) [2] (by decide) rfl
    have hKc := hK.sub (tys' := []) [] rfl
    have hFc := va_free (wc := [(a_tp, .inr (10, [.ref a_tb, .int tt, .int ta, .int tj, .int tf, .int ts, .int te, .int to, .int tg, .int tx, .int ty]))]) hD hS hA [2] rfl
    refine va_calli (va_runV (As := [.int 1]) (rest := []) ⟨hx, hb, hml, hown, hts⟩ (s_X10_fail l dC dI H_7.size a_tp 1 (.ref a_tb) (.int tt) (.int ta) (.int tj) (.int tf) ts (.int te) (.int to) (.int tg) tx ty (by first | omega | decide)) (cwV 1 hts gw_s_X8_takeNot_s_X10_fail_67 rfl rfl rfl (by decide +kernel) ⟨Nat.le_of_ble_eq_true rfl, Nat.le_of_ble_eq_true rfl⟩) ⟨z_blind, va_recv hKc hPc (ci := 10) (q0 := 0) rfl rfl, z_pre hPc hKc hDc⟩ rfl rfl hl.1 rfl (lv_room (Nat.le_of_ble_eq_true rfl)) dX8_takeNot_20 ⟨Nat.le_of_ble_eq_true rfl, Nat.le_of_ble_eq_true rfl⟩) hS (fun q _ h => hFc q h) hFc (fun r_32 u t H_31 locs ht hvm hw_33 hB hz1 hk1 hS => ?_)
    obtain ⟨n_h0_faultSort_34, n_h0_faultPlace_35, hP1, hK1, hD1⟩ := hB
    rw [ht] at hP1
    have hK1 := va_K.moved hvm.symm hK1
    obtain ⟨hP, hD⟩ := va_join (wr := [(h0, .inr (8, [.ref a_tp, .ref a_t1, .ref a_t2, .ref a_w1, .int uw, .int uo, .int up, .ref a_dr, h0_8])), (a_w1, .inl (ca_w1, 104, .inl fa_w1)), (a_tb, .inl (ca_tb, 700, .inl fa_tb)), (a_dr, .inr (7, [.ref a_d1, .ref a_d2, .ref a_d3, .int rl, .int rc, .int rk]))]) (w1 := [(a_tp, .inr (10, [.ref a_tb, .int tt, .int ta, .int tj, .int tf, .int ts, .int te, .int to, .int tg, .int n_h0_faultSort_34, .int n_h0_faultPlace_35]))]) hP hD [2] [0, 1, 3, 4] rfl rfl (by decide) (by decide) hk1 hFc hP1 hD1
    have hP : va_P (dC, dI) vwCl [(h0, .inr (8, [.ref a_tp, .ref a_t1, .ref a_t2, .ref a_w1, .int uw, .int uo, .int up, .ref a_dr, h0_8])), (a_w1, .inl (ca_w1, 104, .inl fa_w1)), (a_tb, .inl (ca_tb, 700, .inl fa_tb)), (a_dr, .inr (7, [.ref a_d1, .ref a_d2, .ref a_d3, .int rl, .int rc, .int rk])), (a_tp, .inr (10, [.ref a_tb, .int tt, .int ta, .int tj, .int tf, .int ts, .int te, .int to, .int tg, .int n_h0_faultSort_34, .int n_h0_faultPlace_35]))] H_31 := hP
    have hD : va_D A [(h0, .inr (8, [.ref a_tp, .ref a_t1, .ref a_t2, .ref a_w1, .int uw, .int uo, .int up, .ref a_dr, h0_8])), (a_w1, .inl (ca_w1, 104, .inl fa_w1)), (a_tb, .inl (ca_tb, 700, .inl fa_tb)), (a_dr, .inr (7, [.ref a_d1, .ref a_d2, .ref a_d3, .int rl, .int rc, .int rk])), (a_tp, .inr (10, [.ref a_tb, .int tt, .int ta, .int tj, .int tf, .int ts, .int te, .int to, .int tg, .int n_h0_faultSort_34, .int n_h0_faultPlace_35]))] := hD
    clear hPc hDc hKc
    obtain rfl : r_32 = 0 := hw_33
    have hP9 := hP.sub (ws' := [(h0, .inr (8, [.ref a_tp, .ref a_t1, .ref a_t2, .ref a_w1, .int uw, .int uo, .int up, .ref a_dr, h0_8])), (a_w1, .inl (ca_w1, 104, .inl fa_w1)), (a_tp, .inr (10, [.ref a_tb, .int tt, .int ta, .int tj, .int tf, .int ts, .int te, .int to, .int tg, .int n_h0_faultSort_34, .int n_h0_faultPlace_35])), (a_tb, .inl (ca_tb, 700, .inl fa_tb)), (a_dr, .inr (7, [.ref a_d1, .ref a_d2, .ref a_d3, .int rl, .int rc, .int rk]))]) [0, 1, 4, 2, 3] rfl
    have hD9 := hD.sub (ws' := [(h0, .inr (8, [.ref a_tp, .ref a_t1, .ref a_t2, .ref a_w1, .int uw, .int uo, .int up, .ref a_dr, h0_8])), (a_w1, .inl (ca_w1, 104, .inl fa_w1)), (a_tp, .inr (10, [.ref a_tb, .int tt, .int ta, .int tj, .int tf, .int ts, .int te, .int to, .int tg, .int n_h0_faultSort_34, .int n_h0_faultPlace_35])), (a_tb, .inl (ca_tb, 700, .inl fa_tb)), (a_dr, .inr (7, [.ref a_d1, .ref a_d2, .ref a_d3, .int rl, .int rc, .int rk]))]) [0, 1, 4, 2, 3] (by decide) rfl
    have hK9 := hK.sub (tys' := []) [] rfl
    refine W.widen (k := 0) (n := 0) (Nat.le_of_ble_eq_true rfl) (Nat.le_of_ble_eq_true rfl) ?_
    exact W.zret (v := 0) hx hb hr (by rfl) (fun t ht hW => ⟨⟨0, (), rfl, (show ((0 : Int) ≤ (0 : Int) ∧ (0 : Int) ≤ (1 : Int)) by omega), ⟨uw, fa_w1, n_h0_faultSort_34, n_h0_faultPlace_35, rk, (by first | omega | decide), (by first | omega | decide), by rw [ht]; exact hP9, va_K.moved hW.alike hK9, hD9⟩⟩, hS.F ht⟩) hS.2.2 dX8_takeNot_23
def u_s_X8_joinInHand : List Cond := .code yX8_joinInHand cX8_joinInHand 2 (some .int) :: ([.fieldLink RX8 42 "ShellHeap$RulesReader" "tape" "LShellHeap$Tape;", .methodLink RX8 63 yX10_wordIn, .instanceMethod yX10_wordIn, .selects RX10 yX10_wordIn yX10_wordIn, .initialized RX10, .code yX10_wordIn cX10_wordIn 7 (some .int), .fieldLink RX10 35 "ShellHeap$Tape" "sort" "I", .fieldLink RX10 29 "ShellHeap$Tape" "start" "I", .methodLink RX10 70 yJ0_length_8abf5, .instanceMethod yJ0_length_8abf5, .selects RJ0 yJ0_length_8abf5 yJ0_length_8abf5, .initialized RJ0, .code yJ0_length_8abf5 cJ0_length_8abf5 1 (some .int), .fieldLink RJ0 9 "java/lang/String" "value" "[B", .methodLink RJ0 335 yJ0_coder_7d493, .instanceMethod yJ0_coder_7d493, .selects RJ0 yJ0_coder_7d493 yJ0_coder_7d493, .code yJ0_coder_7d493 cJ0_coder_7d493 1 (some .byte), .fieldLink RJ0 38 "java/lang/String" "COMPACT_STRINGS" "Z", .fieldLink RJ0 15 "java/lang/String" "coder" "B", .fieldLink RX10 32 "ShellHeap$Tape" "end" "I", .methodLink RX10 76 yJ0_charAt_5068e, .instanceMethod yJ0_charAt_5068e, .selects RJ0 yJ0_charAt_5068e yJ0_charAt_5068e, .code yJ0_charAt_5068e cJ0_charAt_5068e 2 (some .char), .methodLink RJ0 492 yJ0_isLatin1_aae02, .instanceMethod yJ0_isLatin1_aae02, .selects RJ0 yJ0_isLatin1_aae02 yJ0_isLatin1_aae02, .code yJ0_isLatin1_aae02 cJ0_isLatin1_aae02 1 (some .boolean), .methodLink RJ0 495 yJ1_charAt_3b067, .static yJ1_charAt_3b067, .initialized RJ1, .code yJ1_charAt_3b067 cJ1_charAt_3b067 2 (some .char), .methodLink RJ1 9 yJ0_checkIndex_df160, .static yJ0_checkIndex_df160, .code yJ0_checkIndex_df160 cJ0_checkIndex_df160 2 none, .fieldLink RJ0 1053 "jdk/internal/util/Preconditions" "SIOOBE_FORMATTER" "Ljava/util/function/BiFunction;", .methodLink RJ0 1059 yJ3_checkIndex_8e157, .static yJ3_checkIndex_8e157, .initialized RJ3, .code yJ3_checkIndex_8e157 cJ3_checkIndex_8e157 3 (some .int), .methodLink RX10 50 yX10_byteAt, .instanceMethod yX10_byteAt, .selects RX10 yX10_byteAt yX10_byteAt, .code yX10_byteAt cX10_byteAt 2 (some .int), .fieldLink RX10 15 "ShellHeap$Tape" "text" "I", .fieldLink RX10 11 "ShellHeap$Tape" "bytes" "[I", .fieldLink RX8 80 "ShellHeap$Tape" "sign" "I"] ++ wsX80 ++ wsX100)
set_option maxRecDepth 20000 in
theorem gw_s_X8_joinInHand_s_X10_wordIn_63 : GoodIn u_s_X8_joinInHand (wsV RX8 63 RX10 yX10_wordIn u_s_X10_wordIn) := z_gr _ [2, 3, 4, 5, 6, 7, 8, 9, 10, 11, 12, 13, 14, 15, 16, 17, 18, 19, 20, 21, 22, 23, 24, 25, 26, 27, 28, 29, 30, 31, 32, 33, 34, 35, 36, 37, 38, 39, 40, 41, 42, 43, 44, 5, 45, 46, 47, 58, 59, 60, 61, 62, 63, 64, 65, 66, 67, 68] rfl (by decide +kernel)
set_option maxHeartbeats 4000000 in
set_option maxRecDepth 100000 in
theorem s_X8_joinInHand (l : Launch) (dC : Nat → ClassId) (dI : Nat → Nat → Nat) (sz : Nat) (sd : Nat → Nat) (sv : Nat → Nat) (sf : Value) (h0 : Nat) (a_tp : Nat) (a_t1 : Nat) (a_t2 : Nat) (a_w1 : Nat) (uw : Int32) (uo : Int32) (up : Int32) (a_dr : Nat) (h0_8 : Value) (a_tb : Nat) (tt : Int32) (ta : Int32) (tj : Int32) (tf : Int32) (ts : Int32) (te : Int32) (to : Int32) (tg : Int32) (tx : Int32) (ty : Int32) (ca_tb : ClassId) (fa_tb : Nat → Int32) (hB_tt : ((0 : Int) ≤ (tt).toInt ∧ (tt).toInt ≤ (700 : Int))) (hB_ta : ((0 : Int) ≤ (ta).toInt ∧ (ta).toInt ≤ (700 : Int))) (hB_tf : ((0 : Int) ≤ (tf).toInt ∧ (tf).toInt ≤ (700 : Int))) (hB_ts : ((0 : Int) ≤ (ts).toInt ∧ (ts).toInt ≤ (700 : Int))) (hB_te : ((0 : Int) ≤ (te).toInt ∧ (te).toInt ≤ (700 : Int))) (hI_a_tb : ∀ j : Nat, ((0 : Int) ≤ (fa_tb j).toInt ∧ (fa_tb j).toInt ≤ (255 : Int))) : Met l yX8_joinInHand u_s_X8_joinInHand ({ frames := 5, cells := 0, slots := 0, locals := 111 }) (va_Pc [.ref h0] (z_CS (dC, dI) vwCl [(h0, .inr (8, [.ref a_tp, .ref a_t1, .ref a_t2, .ref a_w1, .int uw, .int uo, .int up, .ref a_dr, h0_8])), (a_tp, .inr (10, [.ref a_tb, .int tt, .int ta, .int tj, .int tf, .int ts, .int te, .int to, .int tg, .int tx, .int ty])), (a_tb, .inl (ca_tb, 700, .inl fa_tb))] [(ca_tb, .int)] sz sd sv sf [])) (va_Qi (fun (r : Int32) (_ : Unit) => True) (fun (_ : Unit) (_ : State) => True) (va_A [] sz)) 0 0 (va_A [] sz) := by
  refine Met.ofW (cc := cX8_joinInHand) (maxL := 2) (ret := (some .int)) (by decide) rfl ?_
  intro p e s m args below meth c s₁ B hml hv
  obtain ⟨rfl, ⟨hsz, hP, hK, hD0⟩, hST⟩ := hv
  have hx := B.exec
  have hb := B.bytes
  have hr := B.returns
  have hts := atoms_spec (ws := u_s_X8_joinInHand) B.pre
  have hown : s.vm.findClass RX8 = some m.cls := findClass_of_methodNamed B.named
  have hlocks := B.notSynchronized
  subst hsz
  have hD := hD0
  generalize hAe : va_A [] s.heap.size = A at hST ⊢
  have hA : ∀ q : Nat, s.heap.size ≤ q → A q := fun q h => by rw [← hAe]; exact Or.inr h
  have hS : va_S A s.heap s.heap [] := va_S.rf
  have hP : va_P (dC, dI) vwCl [(h0, .inr (8, [.ref a_tp, .ref a_t1, .ref a_t2, .ref a_w1, .int uw, .int uo, .int up, .ref a_dr, h0_8])), (a_tp, .inr (10, [.ref a_tb, .int tt, .int ta, .int tj, .int tf, .int ts, .int te, .int to, .int tg, .int tx, .int ty])), (a_tb, .inl (ca_tb, 700, .inl fa_tb))] s.heap := hP
  have w__fieldLink_RX8_42_ShellHeap_RulesReader_tape_LShellHeap_Tape_ := hts (.fieldLink RX8 42 "ShellHeap$RulesReader" "tape" "LShellHeap$Tape;") (by decide +kernel)
  have hiX8 := show ∀ w ∈ u_ws RX8 TX8 9, w ∈ u_s_X8_joinInHand by decide +kernel
  have w__fieldLink_RX8_80_ShellHeap_Tape_sign_I_ := hts (.fieldLink RX8 80 "ShellHeap$Tape" "sign" "I") (by decide +kernel)
  have hiX10 := show ∀ w ∈ u_ws RX10 TX10 11, w ∈ u_s_X8_joinInHand by decide +kernel
  have hl := lv_entry ([.ref h0]) (n := 2) (Nat.le_of_ble_eq_true rfl)
  rw [lg_entry_eq]
  generalize (lg_sl ([.ref h0]) ++ List.replicate (2 - (lg_sl ([.ref h0])).length) Slot.unset).toArray = ls at hl ⊢
  have hl : lv_has ls 2 [(0, .ref h0)] := hl
  refine lv_aload_n hx hb dX8_joinInHand_0 rfl (lv_at hl 0 rfl) ?_
  refine va_get (D := (dC, dI)) (ci := 8) (v := .ref a_tp) (C := RX8) (T := TX8) (N := 9) hx hb hts hiX8 hown hK hP 0 rfl rfl 0 (by decide) w__fieldLink_RX8_42_ShellHeap_RulesReader_tape_LShellHeap_Tape_ (fun _ h9 => h9) rfl dX8_joinInHand_1 ?_
  refine va_ldcS hx hb hown hST.2.2.2.2.2.2.2.2.2 dX8_joinInHand_4 ?_
  have hPc := hP.sub (ws' := [(a_tp, .inr (10, [.ref a_tb, .int tt, .int ta, .int tj, .int tf, .int ts, .int te, .int to, .int tg, .int tx, .int ty])), (a_tb, .inl (ca_tb, 700, .inl fa_tb))]) [1, 2] rfl
  have hDc := hD.sub (ws' := [(a_tp, .inr (10, [.ref a_tb, .int tt, .int ta, .int tj, .int tf, .int ts, .int te, .int to, .int tg, .int tx, .int ty])), (a_tb, .inl (ca_tb, 700, .inl fa_tb))]) [1, 2] (by decide) rfl
  have hKc := hK.sub (tys' := [(ca_tb, .int)]) [0] rfl
  have hFc := va_free (ws := []) (wc := []) (z_D0 _) hS hA [] rfl
  refine va_calli (va_runV (As := [.ref (sd 6)]) (rest := []) ⟨hx, hb, hml, hown, hts⟩ (s_X10_wordIn l dC dI s.heap.size sd sv sf 6 a_tp a_tb tt (.int ta) (.int tj) (.int tf) ts te to (.int tg) (.int tx) (.int ty) ca_tb fa_tb (by first | omega | decide) (by first | omega | decide) (by first | omega | decide) hI_a_tb (by decide)) (cwV 1 hts gw_s_X8_joinInHand_s_X10_wordIn_63 rfl rfl rfl (by decide +kernel) ⟨Nat.le_of_ble_eq_true rfl, Nat.le_of_ble_eq_true rfl⟩) ⟨z_blindS, va_recv hKc hPc (ci := 10) (q0 := 0) rfl rfl, z_preS hPc hKc hDc ((hST.kept hS.2.1).narrow hFc)⟩ rfl rfl hl.1 rfl (lv_room (Nat.le_of_ble_eq_true rfl)) dX8_joinInHand_6 ⟨Nat.le_of_ble_eq_true rfl, Nat.le_of_ble_eq_true rfl⟩) hS (fun q _ h => hFc q h) hFc (fun r_2 u t H_1 locs ht hvm hw_3 hB hz1 hk1 hS => ?_)
  have hP := z_pure hP hk1
  have hP : va_P (dC, dI) vwCl [(h0, .inr (8, [.ref a_tp, .ref a_t1, .ref a_t2, .ref a_w1, .int uw, .int uo, .int up, .ref a_dr, h0_8])), (a_tp, .inr (10, [.ref a_tb, .int tt, .int ta, .int tj, .int tf, .int ts, .int te, .int to, .int tg, .int tx, .int ty])), (a_tb, .inl (ca_tb, 700, .inl fa_tb))] H_1 := hP
  have hD : va_D (fun _ => True) [(h0, .inr (8, [.ref a_tp, .ref a_t1, .ref a_t2, .ref a_w1, .int uw, .int uo, .int up, .ref a_dr, h0_8])), (a_tp, .inr (10, [.ref a_tb, .int tt, .int ta, .int tj, .int tf, .int ts, .int te, .int to, .int tg, .int tx, .int ty])), (a_tb, .inl (ca_tb, 700, .inl fa_tb))] := hD
  clear hPc hDc hKc
  refine lv_istore_n (lv' := [(1, .int r_2), (0, .ref h0)]) hx hb dX8_joinInHand_9 rfl hl (by decide) rfl (fun ls hl => ?_)
  refine lv_iload_n hx hb dX8_joinInHand_10 rfl (lv_at hl 0 rfl) ?_
  refine lv_iconst (v := (-1)) hx hb dX8_joinInHand_11 (by decide) ?_
  refine lv_icmp_eq (tgt := 27) hx hb dX8_joinInHand_12 (by decide) (fun c_4 => ?_) (fun c_4 => ?_)
  · have k_5 : (r_2).toInt = (-1 : Int) := z_eq c_4
    obtain rfl : r_2 = (-1) := z_eq' (show (r_2).toInt = (-1 : Int) by omega)
    refine lv_aload_n hx hb dX8_joinInHand_27 rfl (lv_at hl 1 rfl) ?_
    refine va_get (D := (dC, dI)) (ci := 8) (v := .ref a_tp) (C := RX8) (T := TX8) (N := 9) hx hb hts hiX8 hown hK hP 0 rfl rfl 0 (by decide) w__fieldLink_RX8_42_ShellHeap_RulesReader_tape_LShellHeap_Tape_ (fun _ h9 => h9) rfl dX8_joinInHand_28 ?_
    refine va_get (D := (dC, dI)) (ci := 10) (v := .int tg) (C := RX10) (T := TX10) (N := 11) hx hb hts hiX10 hown hK hP 1 rfl rfl 8 (by decide) w__fieldLink_RX8_80_ShellHeap_Tape_sign_I_ (fun _ h9 => h9) rfl dX8_joinInHand_31 ?_
    rcases (Classical.em ((tg).toInt = (42 : Int))) with he_7 | he_7
    · obtain rfl : tg = 42 := z_eq' he_7
      refine lv_lookup (off := 114) (tgt := 148) hx hb dX8_joinInHand_34 (by decide) (by decide) (by decide) ?_
      refine lv_bipush (v := 60) hx hb dX8_joinInHand_148 (by decide) ?_
      refine W.widen (k := 0) (n := 0) (Nat.le_of_ble_eq_true rfl) (Nat.le_of_ble_eq_true rfl) ?_
      exact W.iret (v := 60) hx hb hr (fun t ht hW => ⟨⟨60, (), rfl, trivial, trivial⟩, hS.F ht⟩) hS.2.2 dX8_joinInHand_150
    · skip
      rcases (Classical.em ((tg).toInt = (43 : Int))) with he_8 | he_8
      · obtain rfl : tg = 43 := z_eq' he_8
        refine lv_lookup (off := 108) (tgt := 142) hx hb dX8_joinInHand_34 (by decide) (by decide) (by decide) ?_
        refine lv_bipush (v := 50) hx hb dX8_joinInHand_142 (by decide) ?_
        refine W.widen (k := 0) (n := 0) (Nat.le_of_ble_eq_true rfl) (Nat.le_of_ble_eq_true rfl) ?_
        exact W.iret (v := 50) hx hb hr (fun t ht hW => ⟨⟨50, (), rfl, trivial, trivial⟩, hS.F ht⟩) hS.2.2 dX8_joinInHand_144
      · skip
        rcases (Classical.em ((tg).toInt = (45 : Int))) with he_9 | he_9
        · obtain rfl : tg = 45 := z_eq' he_9
          refine lv_lookup (off := 111) (tgt := 145) hx hb dX8_joinInHand_34 (by decide) (by decide) (by decide) ?_
          refine lv_bipush (v := 51) hx hb dX8_joinInHand_145 (by decide) ?_
          refine W.widen (k := 0) (n := 0) (Nat.le_of_ble_eq_true rfl) (Nat.le_of_ble_eq_true rfl) ?_
          exact W.iret (v := 51) hx hb hr (fun t ht hW => ⟨⟨51, (), rfl, trivial, trivial⟩, hS.F ht⟩) hS.2.2 dX8_joinInHand_147
        · skip
          rcases (Classical.em ((tg).toInt = (47 : Int))) with he_10 | he_10
          · obtain rfl : tg = 47 := z_eq' he_10
            refine lv_lookup (off := 117) (tgt := 151) hx hb dX8_joinInHand_34 (by decide) (by decide) (by decide) ?_
            refine lv_bipush (v := 61) hx hb dX8_joinInHand_151 (by decide) ?_
            refine W.widen (k := 0) (n := 0) (Nat.le_of_ble_eq_true rfl) (Nat.le_of_ble_eq_true rfl) ?_
            exact W.iret (v := 61) hx hb hr (fun t ht hW => ⟨⟨61, (), rfl, trivial, trivial⟩, hS.F ht⟩) hS.2.2 dX8_joinInHand_153
          · skip
            rcases (Classical.em ((tg).toInt = (60 : Int))) with he_11 | he_11
            · obtain rfl : tg = 60 := z_eq' he_11
              refine lv_lookup (off := 90) (tgt := 124) hx hb dX8_joinInHand_34 (by decide) (by decide) (by decide) ?_
              refine lv_bipush (v := 40) hx hb dX8_joinInHand_124 (by decide) ?_
              refine W.widen (k := 0) (n := 0) (Nat.le_of_ble_eq_true rfl) (Nat.le_of_ble_eq_true rfl) ?_
              exact W.iret (v := 40) hx hb hr (fun t ht hW => ⟨⟨40, (), rfl, trivial, trivial⟩, hS.F ht⟩) hS.2.2 dX8_joinInHand_126
            · skip
              rcases (Classical.em ((tg).toInt = (61 : Int))) with he_12 | he_12
              · obtain rfl : tg = 61 := z_eq' he_12
                refine lv_lookup (off := 96) (tgt := 130) hx hb dX8_joinInHand_34 (by decide) (by decide) (by decide) ?_
                refine lv_bipush (v := 42) hx hb dX8_joinInHand_130 (by decide) ?_
                refine W.widen (k := 0) (n := 0) (Nat.le_of_ble_eq_true rfl) (Nat.le_of_ble_eq_true rfl) ?_
                exact W.iret (v := 42) hx hb hr (fun t ht hW => ⟨⟨42, (), rfl, trivial, trivial⟩, hS.F ht⟩) hS.2.2 dX8_joinInHand_132
              · skip
                rcases (Classical.em ((tg).toInt = (62 : Int))) with he_13 | he_13
                · obtain rfl : tg = 62 := z_eq' he_13
                  refine lv_lookup (off := 105) (tgt := 139) hx hb dX8_joinInHand_34 (by decide) (by decide) (by decide) ?_
                  refine lv_bipush (v := 45) hx hb dX8_joinInHand_139 (by decide) ?_
                  refine W.widen (k := 0) (n := 0) (Nat.le_of_ble_eq_true rfl) (Nat.le_of_ble_eq_true rfl) ?_
                  exact W.iret (v := 45) hx hb hr (fun t ht hW => ⟨⟨45, (), rfl, trivial, trivial⟩, hS.F ht⟩) hS.2.2 dX8_joinInHand_141
                · skip
                  rcases (Classical.em ((tg).toInt = (15676 : Int))) with he_14 | he_14
                  · obtain rfl : tg = 15676 := z_eq' he_14
                    refine lv_lookup (off := 93) (tgt := 127) hx hb dX8_joinInHand_34 (by decide) (by decide) (by decide) ?_
                    refine lv_bipush (v := 41) hx hb dX8_joinInHand_127 (by decide) ?_
                    refine W.widen (k := 0) (n := 0) (Nat.le_of_ble_eq_true rfl) (Nat.le_of_ble_eq_true rfl) ?_
                    exact W.iret (v := 41) hx hb hr (fun t ht hW => ⟨⟨41, (), rfl, trivial, trivial⟩, hS.F ht⟩) hS.2.2 dX8_joinInHand_129
                  · skip
                    rcases (Classical.em ((tg).toInt = (15678 : Int))) with he_15 | he_15
                    · obtain rfl : tg = 15678 := z_eq' he_15
                      refine lv_lookup (off := 102) (tgt := 136) hx hb dX8_joinInHand_34 (by decide) (by decide) (by decide) ?_
                      refine lv_bipush (v := 44) hx hb dX8_joinInHand_136 (by decide) ?_
                      refine W.widen (k := 0) (n := 0) (Nat.le_of_ble_eq_true rfl) (Nat.le_of_ble_eq_true rfl) ?_
                      exact W.iret (v := 44) hx hb hr (fun t ht hW => ⟨⟨44, (), rfl, trivial, trivial⟩, hS.F ht⟩) hS.2.2 dX8_joinInHand_138
                    · skip
                      rcases (Classical.em ((tg).toInt = (15932 : Int))) with he_16 | he_16
                      · obtain rfl : tg = 15932 := z_eq' he_16
                        refine lv_lookup (off := 99) (tgt := 133) hx hb dX8_joinInHand_34 (by decide) (by decide) (by decide) ?_
                        refine lv_bipush (v := 43) hx hb dX8_joinInHand_133 (by decide) ?_
                        refine W.widen (k := 0) (n := 0) (Nat.le_of_ble_eq_true rfl) (Nat.le_of_ble_eq_true rfl) ?_
                        exact W.iret (v := 43) hx hb hr (fun t ht hW => ⟨⟨43, (), rfl, trivial, trivial⟩, hS.F ht⟩) hS.2.2 dX8_joinInHand_135
                      · skip
                        refine lv_lookup (off := 120) (tgt := 154) hx hb dX8_joinInHand_34 (by decide) ((lv_osw (k := 42) (fun q => he_7 (z_eq q)) (by decide)).trans ((lv_osw (k := 43) (fun q => he_8 (z_eq q)) (by decide)).trans ((lv_osw (k := 45) (fun q => he_9 (z_eq q)) (by decide)).trans ((lv_osw (k := 47) (fun q => he_10 (z_eq q)) (by decide)).trans ((lv_osw (k := 60) (fun q => he_11 (z_eq q)) (by decide)).trans ((lv_osw (k := 61) (fun q => he_12 (z_eq q)) (by decide)).trans ((lv_osw (k := 62) (fun q => he_13 (z_eq q)) (by decide)).trans ((lv_osw (k := 15676) (fun q => he_14 (z_eq q)) (by decide)).trans ((lv_osw (k := 15678) (fun q => he_15 (z_eq q)) (by decide)).trans ((lv_osw (k := 15932) (fun q => he_16 (z_eq q)) (by decide)).trans (rfl))))))))))) (by decide) ?_
                        refine lv_iconst (v := (-1)) hx hb dX8_joinInHand_154 (by decide) ?_
                        refine W.widen (k := 0) (n := 0) (Nat.le_of_ble_eq_true rfl) (Nat.le_of_ble_eq_true rfl) ?_
                        exact W.iret (v := (-1)) hx hb hr (fun t ht hW => ⟨⟨(-1), (), rfl, trivial, trivial⟩, hS.F ht⟩) hS.2.2 dX8_joinInHand_155
  · have k_17 : (r_2).toInt ≠ (-1 : Int) := z_ne c_4
    refine lv_iload_n hx hb dX8_joinInHand_15 rfl (lv_at hl 0 rfl) ?_
    refine lv_if_ne (tgt := 24) hx hb dX8_joinInHand_16 (by decide) (fun c_18 => ?_) (fun c_18 => ?_)
    · have k_19 : (r_2).toInt ≠ (0 : Int) := z_ne c_18
      refine lv_bipush (v := 20) hx hb dX8_joinInHand_24 (by decide) ?_
      refine W.widen (k := 0) (n := 0) (Nat.le_of_ble_eq_true rfl) (Nat.le_of_ble_eq_true rfl) ?_
      exact W.iret (v := 20) hx hb hr (fun t ht hW => ⟨⟨20, (), rfl, trivial, trivial⟩, hS.F ht⟩) hS.2.2 dX8_joinInHand_26
    · have k_20 : (r_2).toInt = (0 : Int) := z_eq c_18
      obtain rfl : r_2 = 0 := z_eq' (show (r_2).toInt = (0 : Int) by omega)
      refine lv_bipush (v := 10) hx hb dX8_joinInHand_19 (by decide) ?_
      refine lv_goto (tgt := 26) hx hb dX8_joinInHand_21 (by decide) ?_
      refine W.widen (k := 0) (n := 0) (Nat.le_of_ble_eq_true rfl) (Nat.le_of_ble_eq_true rfl) ?_
      exact W.iret (v := 10) hx hb hr (fun t ht hW => ⟨⟨10, (), rfl, trivial, trivial⟩, hS.F ht⟩) hS.2.2 dX8_joinInHand_26
def u_s_X8_takeClose : List Cond := .code yX8_takeClose cX8_takeClose 1 (some .boolean) :: ([.fieldLink RX8 27 "ShellHeap$RulesReader" "open" "I", .methodLink RX8 103 yX8_tightness, .static yX8_tightness, .initialized RX8, .code yX8_tightness cX8_tightness 1 (some .int), .methodLink RX8 107 yX8_settle, .instanceMethod yX8_settle, .selects RX8 yX8_settle yX8_settle, .code yX8_settle cX8_settle 2 none, .fieldLink RX8 23 "ShellHeap$RulesReader" "waits" "I", .methodLink RX8 150 yX8_lastWaiting, .instanceMethod yX8_lastWaiting, .selects RX8 yX8_lastWaiting yX8_lastWaiting, .code yX8_lastWaiting cX8_lastWaiting 1 (some .int), .fieldLink RX8 20 "ShellHeap$RulesReader" "waiting" "[I", .fieldLink RX8 35 "ShellHeap$RulesReader" "draft" "LShellHeap$Rules;", .methodLink RX8 146 yX7_add, .instanceMethod yX7_add, .selects RX7 yX7_add yX7_add, .initialized RX7, .code yX7_add cX7_add 3 none, .fieldLink RX7 19 "ShellHeap$Rules" "length" "I", .fieldLink RX7 9 "ShellHeap$Rules" "steps" "[I", .fieldLink RX7 13 "ShellHeap$Rules" "worths" "[I", .methodLink RX8 160 Lib.Math.max.name, .static Lib.Math.max.name, .initialized "java/lang/Math", .code Lib.Math.max.name Lib.Math.max.code 2 (some .int), .fieldLink RX8 42 "ShellHeap$RulesReader" "tape" "LShellHeap$Tape;", .methodLink RX8 67 yX10_fail, .instanceMethod yX10_fail, .selects RX10 yX10_fail yX10_fail, .initialized RX10, .code yX10_fail cX10_fail 2 (some .boolean), .fieldLink RX10 41 "ShellHeap$Tape" "faultSort" "I", .fieldLink RX10 29 "ShellHeap$Tape" "start" "I", .fieldLink RX10 44 "ShellHeap$Tape" "faultPlace" "I"] ++ wsX80 ++ wsX70 ++ wsX100)
set_option maxRecDepth 20000 in
theorem gw_s_X8_takeClose_s_X8_tightness_103 : GoodIn u_s_X8_takeClose (va_wsS RX8 103 yX8_tightness u_s_X8_tightness) := z_gr _ [2, 3, 4, 5] rfl (by decide +kernel)
set_option maxRecDepth 20000 in
theorem gw_s_X8_takeClose_s_X8_settle_107 : GoodIn u_s_X8_takeClose (wsV RX8 107 RX8 yX8_settle u_s_X8_settle) := z_gr _ [6, 7, 8, 4, 9, 10, 11, 12, 13, 4, 14, 15, 2, 3, 5, 16, 17, 18, 19, 20, 21, 22, 23, 24, 38, 39, 40, 41, 42, 43, 44, 45, 46, 47, 48, 49, 50, 51, 52] rfl (by decide +kernel)
set_option maxRecDepth 20000 in
theorem gw_s_X8_takeClose_s_X10_fail_67 : GoodIn u_s_X8_takeClose (wsV RX8 67 RX10 yX10_fail u_s_X10_fail) := z_gr _ [30, 31, 32, 33, 34, 35, 36, 37, 53, 54, 55, 56, 57, 58, 59, 60, 61, 62, 63] rfl (by decide +kernel)
set_option maxHeartbeats 4000000 in
set_option maxRecDepth 100000 in
theorem s_X8_takeClose (l : Launch) (dC : Nat → ClassId) (dI : Nat → Nat → Nat) (sz : Nat) (h0 : Nat) (a_tp : Nat) (a_t1 : Nat) (a_t2 : Nat) (a_w1 : Nat) (uw : Int32) (uo : Int32) (up : Int32) (a_dr : Nat) (h0_8 : Value) (ca_w1 : ClassId) (fa_w1 : Nat → Int32) (a_tb : Nat) (tt : Int32) (ta : Int32) (tj : Int32) (tf : Int32) (ts : Int32) (te : Int32) (to : Int32) (tg : Int32) (tx : Int32) (ty : Int32) (ca_tb : ClassId) (fa_tb : Nat → Int32) (a_d1 : Nat) (a_d2 : Nat) (a_d3 : Nat) (rl : Int32) (rc : Int32) (rk : Int32) (ca_d1 : ClassId) (fa_d1 : Nat → Int32) (ca_d2 : ClassId) (fa_d2 : Nat → Int32) (ca_d3 : ClassId) (fa_d3 : Nat → Int32) (hB_tt : ((0 : Int) ≤ (tt).toInt ∧ (tt).toInt ≤ (700 : Int))) (hB_ta : ((0 : Int) ≤ (ta).toInt ∧ (ta).toInt ≤ (700 : Int))) (hB_tf : ((0 : Int) ≤ (tf).toInt ∧ (tf).toInt ≤ (700 : Int))) (hB_ts : ((0 : Int) ≤ (ts).toInt ∧ (ts).toInt ≤ (700 : Int))) (hB_te : ((0 : Int) ≤ (te).toInt ∧ (te).toInt ≤ (700 : Int))) (hB_uw : ((0 : Int) ≤ (uw).toInt ∧ (uw).toInt ≤ (104 : Int))) (hB_uo : ((0 : Int) ≤ (uo).toInt ∧ (uo).toInt ≤ (8 : Int))) (hB_up : ((0 : Int) ≤ (up).toInt ∧ (up).toInt ≤ (1 : Int))) (hB_rl : ((0 : Int) ≤ (rl).toInt ∧ (rl).toInt ≤ (96 : Int))) (hB_rc : ((0 : Int) ≤ (rc).toInt ∧ (rc).toInt ≤ (6 : Int))) (hB_rk : ((0 : Int) ≤ (rk).toInt ∧ (rk).toInt ≤ (96 : Int))) (hI_a_tb : ∀ j : Nat, ((0 : Int) ≤ (fa_tb j).toInt ∧ (fa_tb j).toInt ≤ (255 : Int))) (hI_a_d3 : ∀ j : Nat, ((0 : Int) ≤ (fa_d3 j).toInt ∧ (fa_d3 j).toInt ≤ (96 : Int))) : Met l yX8_takeClose u_s_X8_takeClose ({ frames := 2, cells := 0, slots := 0, locals := 43 }) (va_Pc [.ref h0] (z_C (dC, dI) vwCl [(h0, .inr (8, [.ref a_tp, .ref a_t1, .ref a_t2, .ref a_w1, .int uw, .int uo, .int up, .ref a_dr, h0_8])), (a_w1, .inl (ca_w1, 104, .inl fa_w1)), (a_tp, .inr (10, [.ref a_tb, .int tt, .int ta, .int tj, .int tf, .int ts, .int te, .int to, .int tg, .int tx, .int ty])), (a_tb, .inl (ca_tb, 700, .inl fa_tb)), (a_dr, .inr (7, [.ref a_d1, .ref a_d2, .ref a_d3, .int rl, .int rc, .int rk])), (a_d1, .inl (ca_d1, 96, .inl fa_d1)), (a_d2, .inl (ca_d2, 96, .inl fa_d2)), (a_d3, .inl (ca_d3, 7, .inl fa_d3))] [(ca_w1, .int), (ca_tb, .int), (ca_d1, .int), (ca_d2, .int), (ca_d3, .int)] sz)) (va_Qi (fun (r : Int32) (_ : Unit) => ((0 : Int) ≤ (r).toInt ∧ (r).toInt ≤ (1 : Int))) (fun (_ : Unit) (t : State) => ∃ (n_h0_waits : Int32), ∃ (n_h0_open : Int32), ∃ (n_a_tp_faultSort : Int32), ∃ (n_a_tp_faultPlace : Int32), ∃ (n_a_dr_length : Int32), ∃ (g_a_d1 : Nat → Int32), ∃ (g_a_d2 : Nat → Int32), ((0 : Int) ≤ (n_h0_waits).toInt ∧ (n_h0_waits).toInt ≤ (104 : Int)) ∧ ((0 : Int) ≤ (n_h0_open).toInt ∧ (n_h0_open).toInt ≤ (8 : Int)) ∧ ((0 : Int) ≤ (n_a_dr_length).toInt ∧ (n_a_dr_length).toInt ≤ (96 : Int)) ∧ va_P (dC, dI) vwCl [(h0, .inr (8, [.ref a_tp, .ref a_t1, .ref a_t2, .ref a_w1, .int n_h0_waits, .int n_h0_open, .int up, .ref a_dr, h0_8])), (a_w1, .inl (ca_w1, 104, .inl fa_w1)), (a_tp, .inr (10, [.ref a_tb, .int tt, .int ta, .int tj, .int tf, .int ts, .int te, .int to, .int tg, .int n_a_tp_faultSort, .int n_a_tp_faultPlace])), (a_tb, .inl (ca_tb, 700, .inl fa_tb)), (a_dr, .inr (7, [.ref a_d1, .ref a_d2, .ref a_d3, .int n_a_dr_length, .int rc, .int rk])), (a_d1, .inl (ca_d1, 96, .inl g_a_d1)), (a_d2, .inl (ca_d2, 96, .inl g_a_d2)), (a_d3, .inl (ca_d3, 7, .inl fa_d3))] t.heap ∧ va_K (dC, dI) vwCl [] t ∧ va_D (va_A [(h0, .inr (8, [.ref a_tp, .ref a_t1, .ref a_t2, .ref a_w1, .int uw, .int uo, .int up, .ref a_dr, h0_8])), (a_w1, .inl (ca_w1, 104, .inl fa_w1)), (a_tp, .inr (10, [.ref a_tb, .int tt, .int ta, .int tj, .int tf, .int ts, .int te, .int to, .int tg, .int tx, .int ty])), (a_tb, .inl (ca_tb, 700, .inl fa_tb)), (a_dr, .inr (7, [.ref a_d1, .ref a_d2, .ref a_d3, .int rl, .int rc, .int rk])), (a_d1, .inl (ca_d1, 96, .inl fa_d1)), (a_d2, .inl (ca_d2, 96, .inl fa_d2)), (a_d3, .inl (ca_d3, 7, .inl fa_d3))] sz) [(h0, .inr (8, [.ref a_tp, .ref a_t1, .ref a_t2, .ref a_w1, .int n_h0_waits, .int n_h0_open, .int up, .ref a_dr, h0_8])), (a_w1, .inl (ca_w1, 104, .inl fa_w1)), (a_tp, .inr (10, [.ref a_tb, .int tt, .int ta, .int tj, .int tf, .int ts, .int te, .int to, .int tg, .int n_a_tp_faultSort, .int n_a_tp_faultPlace])), (a_tb, .inl (ca_tb, 700, .inl fa_tb)), (a_dr, .inr (7, [.ref a_d1, .ref a_d2, .ref a_d3, .int n_a_dr_length, .int rc, .int rk])), (a_d1, .inl (ca_d1, 96, .inl g_a_d1)), (a_d2, .inl (ca_d2, 96, .inl g_a_d2)), (a_d3, .inl (ca_d3, 7, .inl fa_d3))]) (va_A [(h0, .inr (8, [.ref a_tp, .ref a_t1, .ref a_t2, .ref a_w1, .int uw, .int uo, .int up, .ref a_dr, h0_8])), (a_w1, .inl (ca_w1, 104, .inl fa_w1)), (a_tp, .inr (10, [.ref a_tb, .int tt, .int ta, .int tj, .int tf, .int ts, .int te, .int to, .int tg, .int tx, .int ty])), (a_tb, .inl (ca_tb, 700, .inl fa_tb)), (a_dr, .inr (7, [.ref a_d1, .ref a_d2, .ref a_d3, .int rl, .int rc, .int rk])), (a_d1, .inl (ca_d1, 96, .inl fa_d1)), (a_d2, .inl (ca_d2, 96, .inl fa_d2)), (a_d3, .inl (ca_d3, 7, .inl fa_d3))] sz)) 0 0 (va_A [(h0, .inr (8, [.ref a_tp, .ref a_t1, .ref a_t2, .ref a_w1, .int uw, .int uo, .int up, .ref a_dr, h0_8])), (a_w1, .inl (ca_w1, 104, .inl fa_w1)), (a_tp, .inr (10, [.ref a_tb, .int tt, .int ta, .int tj, .int tf, .int ts, .int te, .int to, .int tg, .int tx, .int ty])), (a_tb, .inl (ca_tb, 700, .inl fa_tb)), (a_dr, .inr (7, [.ref a_d1, .ref a_d2, .ref a_d3, .int rl, .int rc, .int rk])), (a_d1, .inl (ca_d1, 96, .inl fa_d1)), (a_d2, .inl (ca_d2, 96, .inl fa_d2)), (a_d3, .inl (ca_d3, 7, .inl fa_d3))] sz) := by
  refine Met.ofW (cc := cX8_takeClose) (maxL := 1) (ret := (some .boolean)) (by decide) rfl ?_
  intro p e s m args below meth c s₁ B hml hv
  obtain ⟨rfl, hsz, hP, hK, hD0⟩ := hv
  have hx := B.exec
  have hb := B.bytes
  have hr := B.returns
  have hts := atoms_spec (ws := u_s_X8_takeClose) B.pre
  have hown : s.vm.findClass RX8 = some m.cls := findClass_of_methodNamed B.named
  have hlocks := B.notSynchronized
  subst hsz
  have hD := hD0.self (sz := s.heap.size)
  generalize hAe : va_A [(h0, .inr (8, [.ref a_tp, .ref a_t1, .ref a_t2, .ref a_w1, .int uw, .int uo, .int up, .ref a_dr, h0_8])), (a_w1, .inl (ca_w1, 104, .inl fa_w1)), (a_tp, .inr (10, [.ref a_tb, .int tt, .int ta, .int tj, .int tf, .int ts, .int te, .int to, .int tg, .int tx, .int ty])), (a_tb, .inl (ca_tb, 700, .inl fa_tb)), (a_dr, .inr (7, [.ref a_d1, .ref a_d2, .ref a_d3, .int rl, .int rc, .int rk])), (a_d1, .inl (ca_d1, 96, .inl fa_d1)), (a_d2, .inl (ca_d2, 96, .inl fa_d2)), (a_d3, .inl (ca_d3, 7, .inl fa_d3))] s.heap.size = A at hD ⊢
  have hA : ∀ q : Nat, s.heap.size ≤ q → A q := fun q h => by rw [← hAe]; exact Or.inr h
  have hS : va_S A s.heap s.heap [] := va_S.rf
  have hP : va_P (dC, dI) vwCl [(h0, .inr (8, [.ref a_tp, .ref a_t1, .ref a_t2, .ref a_w1, .int uw, .int uo, .int up, .ref a_dr, h0_8])), (a_w1, .inl (ca_w1, 104, .inl fa_w1)), (a_tp, .inr (10, [.ref a_tb, .int tt, .int ta, .int tj, .int tf, .int ts, .int te, .int to, .int tg, .int tx, .int ty])), (a_tb, .inl (ca_tb, 700, .inl fa_tb)), (a_dr, .inr (7, [.ref a_d1, .ref a_d2, .ref a_d3, .int rl, .int rc, .int rk])), (a_d1, .inl (ca_d1, 96, .inl fa_d1)), (a_d2, .inl (ca_d2, 96, .inl fa_d2)), (a_d3, .inl (ca_d3, 7, .inl fa_d3))] s.heap := hP
  have w__fieldLink_RX8_27_ShellHeap_RulesReader_open_I_ := hts (.fieldLink RX8 27 "ShellHeap$RulesReader" "open" "I") (by decide +kernel)
  have hiX8 := show ∀ w ∈ u_ws RX8 TX8 9, w ∈ u_s_X8_takeClose by decide +kernel
  have w__fieldLink_RX8_23_ShellHeap_RulesReader_waits_I_ := hts (.fieldLink RX8 23 "ShellHeap$RulesReader" "waits" "I") (by decide +kernel)
  have w__methodLink_RX8_160_Lib_Math_max_name := hts (.methodLink RX8 160 Lib.Math.max.name) (by decide +kernel)
  have w__static_Lib_Math_max_name := hts (.static Lib.Math.max.name) (by decide +kernel)
  have w__initialized_java_lang_Math_ := hts (.initialized "java/lang/Math") (by decide +kernel)
  have w__code_Lib_Math_max_name_Lib_Math_max_code_2_some_int_ := hts (.code Lib.Math.max.name Lib.Math.max.code 2 (some .int)) (by decide +kernel)
  have w__fieldLink_RX8_42_ShellHeap_RulesReader_tape_LShellHeap_Tape_ := hts (.fieldLink RX8 42 "ShellHeap$RulesReader" "tape" "LShellHeap$Tape;") (by decide +kernel)
  have hl := lv_entry ([.ref h0]) (n := 1) (Nat.le_of_ble_eq_true rfl)
  rw [lg_entry_eq]
  generalize (lg_sl ([.ref h0]) ++ List.replicate (1 - (lg_sl ([.ref h0])).length) Slot.unset).toArray = ls at hl ⊢
  have hl : lv_has ls 1 [(0, .ref h0)] := hl
  refine lv_aload_n hx hb dX8_takeClose_0 rfl (lv_at hl 0 rfl) ?_
  refine va_get (D := (dC, dI)) (ci := 8) (v := .int uo) (C := RX8) (T := TX8) (N := 9) hx hb hts hiX8 hown hK hP 0 rfl rfl 5 (by decide) w__fieldLink_RX8_27_ShellHeap_RulesReader_open_I_ (fun _ h9 => h9) rfl dX8_takeClose_1 ?_
  refine lv_if_ne (tgt := 16) hx hb dX8_takeClose_4 (by decide) (fun c_1 => ?_) (fun c_1 => ?_)
  · have k_2 : (uo).toInt ≠ (0 : Int) := z_ne c_1
    refine lv_aload_n hx hb dX8_takeClose_16 rfl (lv_at hl 0 rfl) ?_
    refine lv_bipush (v := 10) hx hb dX8_takeClose_17 (by decide) ?_
    have hPc := hP.sub (ws' := []) [] rfl
    have hDc := hD.sub (ws' := []) [] (by decide) rfl
    have hKc := hK.sub (tys' := []) [] rfl
    have hFc := va_free (ws := []) (wc := []) (z_D0 _) hS hA [] rfl
    refine va_calli (va_runS (As := [.int 10]) (rest := [.ref h0]) ⟨hx, hb, hml, hown, hts⟩ (s_X8_tightness l dC dI s.heap.size 10) (va_cwS 1 hts gw_s_X8_takeClose_s_X8_tightness_103 rfl rfl rfl (by decide +kernel) ⟨Nat.le_of_ble_eq_true rfl, Nat.le_of_ble_eq_true rfl⟩) ⟨z_blind, z_pre hPc hKc hDc⟩ rfl rfl hl.1 rfl (lv_room (Nat.le_of_ble_eq_true rfl)) dX8_takeClose_19 ⟨Nat.le_of_ble_eq_true rfl, Nat.le_of_ble_eq_true rfl⟩) hS (fun q _ h => hFc q h) hFc (fun r_4 u t H_3 locs ht hvm hw_5 hB hz1 hk1 hS => ?_)
    have hP := z_pure hP hk1
    have hP : va_P (dC, dI) vwCl [(h0, .inr (8, [.ref a_tp, .ref a_t1, .ref a_t2, .ref a_w1, .int uw, .int uo, .int up, .ref a_dr, h0_8])), (a_w1, .inl (ca_w1, 104, .inl fa_w1)), (a_tp, .inr (10, [.ref a_tb, .int tt, .int ta, .int tj, .int tf, .int ts, .int te, .int to, .int tg, .int tx, .int ty])), (a_tb, .inl (ca_tb, 700, .inl fa_tb)), (a_dr, .inr (7, [.ref a_d1, .ref a_d2, .ref a_d3, .int rl, .int rc, .int rk])), (a_d1, .inl (ca_d1, 96, .inl fa_d1)), (a_d2, .inl (ca_d2, 96, .inl fa_d2)), (a_d3, .inl (ca_d3, 7, .inl fa_d3))] H_3 := hP
    have hD : va_D A [(h0, .inr (8, [.ref a_tp, .ref a_t1, .ref a_t2, .ref a_w1, .int uw, .int uo, .int up, .ref a_dr, h0_8])), (a_w1, .inl (ca_w1, 104, .inl fa_w1)), (a_tp, .inr (10, [.ref a_tb, .int tt, .int ta, .int tj, .int tf, .int ts, .int te, .int to, .int tg, .int tx, .int ty])), (a_tb, .inl (ca_tb, 700, .inl fa_tb)), (a_dr, .inr (7, [.ref a_d1, .ref a_d2, .ref a_d3, .int rl, .int rc, .int rk])), (a_d1, .inl (ca_d1, 96, .inl fa_d1)), (a_d2, .inl (ca_d2, 96, .inl fa_d2)), (a_d3, .inl (ca_d3, 7, .inl fa_d3))] := hD
    clear hPc hDc hKc
    have hPc := hP.sub (ws' := [(h0, .inr (8, [.ref a_tp, .ref a_t1, .ref a_t2, .ref a_w1, .int uw, .int uo, .int up, .ref a_dr, h0_8])), (a_w1, .inl (ca_w1, 104, .inl fa_w1)), (a_dr, .inr (7, [.ref a_d1, .ref a_d2, .ref a_d3, .int rl, .int rc, .int rk])), (a_d1, .inl (ca_d1, 96, .inl fa_d1)), (a_d2, .inl (ca_d2, 96, .inl fa_d2)), (a_d3, .inl (ca_d3, 7, .inl fa_d3))]) [0, 1, 4, 5, 6, 7] rfl
    have hDc := hD.sub (ws' := [(h0, .inr (8, [.ref a_tp, .ref a_t1, .ref a_t2, .ref a_w1, .int uw, .int uo, .int up, .ref a_dr, h0_8])), (a_w1, .inl (ca_w1, 104, .inl fa_w1)), (a_dr, .inr (7, [.ref a_d1, .ref a_d2, .ref a_d3, .int rl, .int rc, .int rk])), (a_d1, .inl (ca_d1, 96, .inl fa_d1)), (a_d2, .inl (ca_d2, 96, .inl fa_d2)), (a_d3, .inl (ca_d3, 7, .inl fa_d3))]) [0, 1, 4, 5, 6, 7] (by decide) rfl
    have hKc := hK.sub (tys' := [(ca_w1, .int), (ca_d1, .int), (ca_d2, .int), (ca_d3, .int)]) [0, 2, 3, 4] rfl
    have hFc := va_free (wc := [(h0, .inr (8, [.ref a_tp, .ref a_t1, .ref a_t2, .ref a_w1, .int uw, .int uo, .int up, .ref a_dr, h0_8])), (a_w1, .inl (ca_w1, 104, .inl fa_w1)), (a_dr, .inr (7, [.ref a_d1, .ref a_d2, .ref a_d3, .int rl, .int rc, .int rk])), (a_d1, .inl (ca_d1, 96, .inl fa_d1)), (a_d2, .inl (ca_d2, 96, .inl fa_d2)), (a_d3, .inl (ca_d3, 7, .inl fa_d3))]) hD hS hA [0, 1, 4, 5, 6, 7] rfl
    refine va_callv (va_runV (As := [.int r_4]) (rest := []) ⟨hx, hb, hml, hown, hts⟩ (s_X8_settle l dC dI H_3.size h0 r_4 a_tp a_t1 a_t2 a_w1 uw uo up a_dr h0_8 ca_w1 fa_w1 a_d1 a_d2 a_d3 rl rc rk ca_d1 fa_d1 ca_d2 fa_d2 ca_d3 fa_d3 (by first | omega | decide) (by first | omega | decide) (by first | omega | decide) (by first | omega | decide) (by first | omega | decide) (by first | omega | decide) hI_a_d3) (cwV 1 hts gw_s_X8_takeClose_s_X8_settle_107 rfl rfl rfl (by decide +kernel) ⟨Nat.le_of_ble_eq_true rfl, Nat.le_of_ble_eq_true rfl⟩) ⟨z_blind, va_recv hKc hPc (ci := 8) (q0 := 0) rfl rfl, z_pre hPc hKc hDc⟩ rfl rfl hl.1 rfl (lv_room (Nat.le_of_ble_eq_true rfl)) dX8_takeClose_22 ⟨Nat.le_of_ble_eq_true rfl, Nat.le_of_ble_eq_true rfl⟩) hS (fun q _ h => hFc q h) hFc (fun u t H_6 locs ht hvm hw_8 hB hz1 hk1 hS => ?_)
    obtain ⟨n_h0_waits_9, n_a_dr_length_10, g_a_d1_11, g_a_d2_12, hp_13, hp_14, hP1, hK1, hD1⟩ := hB
    rw [ht] at hP1
    have hK1 := va_K.moved hvm.symm hK1
    obtain ⟨hP, hD⟩ := va_join (wr := [(a_tp, .inr (10, [.ref a_tb, .int tt, .int ta, .int tj, .int tf, .int ts, .int te, .int to, .int tg, .int tx, .int ty])), (a_tb, .inl (ca_tb, 700, .inl fa_tb))]) (w1 := [(h0, .inr (8, [.ref a_tp, .ref a_t1, .ref a_t2, .ref a_w1, .int n_h0_waits_9, .int uo, .int up, .ref a_dr, h0_8])), (a_w1, .inl (ca_w1, 104, .inl fa_w1)), (a_dr, .inr (7, [.ref a_d1, .ref a_d2, .ref a_d3, .int n_a_dr_length_10, .int rc, .int rk])), (a_d1, .inl (ca_d1, 96, .inl g_a_d1_11)), (a_d2, .inl (ca_d2, 96, .inl g_a_d2_12)), (a_d3, .inl (ca_d3, 7, .inl fa_d3))]) hP hD [0, 1, 4, 5, 6, 7] [2, 3] rfl rfl (by decide) (by decide) hk1 hFc hP1 hD1
    have hP : va_P (dC, dI) vwCl [(a_tp, .inr (10, [.ref a_tb, .int tt, .int ta, .int tj, .int tf, .int ts, .int te, .int to, .int tg, .int tx, .int ty])), (a_tb, .inl (ca_tb, 700, .inl fa_tb)), (h0, .inr (8, [.ref a_tp, .ref a_t1, .ref a_t2, .ref a_w1, .int n_h0_waits_9, .int uo, .int up, .ref a_dr, h0_8])), (a_w1, .inl (ca_w1, 104, .inl fa_w1)), (a_dr, .inr (7, [.ref a_d1, .ref a_d2, .ref a_d3, .int n_a_dr_length_10, .int rc, .int rk])), (a_d1, .inl (ca_d1, 96, .inl g_a_d1_11)), (a_d2, .inl (ca_d2, 96, .inl g_a_d2_12)), (a_d3, .inl (ca_d3, 7, .inl fa_d3))] H_6 := hP
    have hD : va_D A [(a_tp, .inr (10, [.ref a_tb, .int tt, .int ta, .int tj, .int tf, .int ts, .int te, .int to, .int tg, .int tx, .int ty])), (a_tb, .inl (ca_tb, 700, .inl fa_tb)), (h0, .inr (8, [.ref a_tp, .ref a_t1, .ref a_t2, .ref a_w1, .int n_h0_waits_9, .int uo, .int up, .ref a_dr, h0_8])), (a_w1, .inl (ca_w1, 104, .inl fa_w1)), (a_dr, .inr (7, [.ref a_d1, .ref a_d2, .ref a_d3, .int n_a_dr_length_10, .int rc, .int rk])), (a_d1, .inl (ca_d1, 96, .inl g_a_d1_11)), (a_d2, .inl (ca_d2, 96, .inl g_a_d2_12)), (a_d3, .inl (ca_d3, 7, .inl fa_d3))] := hD
    clear hPc hDc hKc
    refine lv_aload_n hx hb dX8_takeClose_25 rfl (lv_at hl 0 rfl) ?_
    refine lv_aload_n hx hb dX8_takeClose_26 rfl (lv_at hl 0 rfl) ?_
    refine va_get (D := (dC, dI)) (ci := 8) (v := .int n_h0_waits_9) (C := RX8) (T := TX8) (N := 9) hx hb hts hiX8 hown hK hP 2 rfl rfl 4 (by decide) w__fieldLink_RX8_23_ShellHeap_RulesReader_waits_I_ (fun _ h9 => h9) rfl dX8_takeClose_27 ?_
    refine lv_iconst (v := 1) hx hb dX8_takeClose_30 (by decide) ?_
    refine lv_isub hx hb dX8_takeClose_31 ?_
    refine lv_topi (fun z_15 ez_15 => ?_)
    have kz_15 : (z_15).toInt = (n_h0_waits_9).toInt - (1 : Int) := by rw [ez_15]; exact z_sub (a := (n_h0_waits_9).toInt) (b := (1 : Int)) rfl rfl (by omega) (by omega)
    refine lv_iconst (v := 0) hx hb dX8_takeClose_32 (by decide) ?_
    refine va_mmax hx hb (hml.trans hl.1.symm) hown w__methodLink_RX8_160_Lib_Math_max_name w__static_Lib_Math_max_name w__initialized_java_lang_Math_ w__code_Lib_Math_max_name_Lib_Math_max_code_2_some_int_ (Nat.le_of_ble_eq_true rfl) (Nat.le_of_ble_eq_true rfl) (Nat.le_of_ble_eq_true rfl) (Nat.le_of_ble_eq_true rfl) dX8_takeClose_33 ?_
    refine lv_topi (fun z_16 ez_16 => ?_)
    have kz_16 : ((z_16).toInt = (z_15).toInt ∨ (z_16).toInt = (0 : Int)) ∧ (z_16).toInt ≥ (z_15).toInt ∧ (z_16).toInt ≥ (0 : Int) := z_max ez_16
    refine va_put (D := (dC, dI)) (ci := 8) (v := .int z_16) (ty := .int) (C := RX8) (T := TX8) (N := 9) hx hb hts hiX8 tyX8 tyX8_ok nmX8 hown hK hP hD hS 2 rfl rfl 4 (by decide) w__fieldLink_RX8_23_ShellHeap_RulesReader_waits_I_ (fun _ h9 => h9) rfl (by decide +kernel) rfl rfl (Nat.le_of_ble_eq_true rfl) dX8_takeClose_36 (fun H_17 locs hP hD hS => ?_)
    have hP : va_P (dC, dI) vwCl [(a_tp, .inr (10, [.ref a_tb, .int tt, .int ta, .int tj, .int tf, .int ts, .int te, .int to, .int tg, .int tx, .int ty])), (a_tb, .inl (ca_tb, 700, .inl fa_tb)), (h0, .inr (8, [.ref a_tp, .ref a_t1, .ref a_t2, .ref a_w1, .int z_16, .int uo, .int up, .ref a_dr, h0_8])), (a_w1, .inl (ca_w1, 104, .inl fa_w1)), (a_dr, .inr (7, [.ref a_d1, .ref a_d2, .ref a_d3, .int n_a_dr_length_10, .int rc, .int rk])), (a_d1, .inl (ca_d1, 96, .inl g_a_d1_11)), (a_d2, .inl (ca_d2, 96, .inl g_a_d2_12)), (a_d3, .inl (ca_d3, 7, .inl fa_d3))] H_17 := hP
    have hD : va_D A [(a_tp, .inr (10, [.ref a_tb, .int tt, .int ta, .int tj, .int tf, .int ts, .int te, .int to, .int tg, .int tx, .int ty])), (a_tb, .inl (ca_tb, 700, .inl fa_tb)), (h0, .inr (8, [.ref a_tp, .ref a_t1, .ref a_t2, .ref a_w1, .int z_16, .int uo, .int up, .ref a_dr, h0_8])), (a_w1, .inl (ca_w1, 104, .inl fa_w1)), (a_dr, .inr (7, [.ref a_d1, .ref a_d2, .ref a_d3, .int n_a_dr_length_10, .int rc, .int rk])), (a_d1, .inl (ca_d1, 96, .inl g_a_d1_11)), (a_d2, .inl (ca_d2, 96, .inl g_a_d2_12)), (a_d3, .inl (ca_d3, 7, .inl fa_d3))] := hD
    refine lv_aload_n hx hb dX8_takeClose_39 rfl (lv_at hl 0 rfl) ?_
    refine lv_dup hx hb dX8_takeClose_40 rfl ?_
    refine va_get (D := (dC, dI)) (ci := 8) (v := .int uo) (C := RX8) (T := TX8) (N := 9) hx hb hts hiX8 hown hK hP 2 rfl rfl 5 (by decide) w__fieldLink_RX8_27_ShellHeap_RulesReader_open_I_ (fun _ h9 => h9) rfl dX8_takeClose_41 ?_
    refine lv_iconst (v := 1) hx hb dX8_takeClose_44 (by decide) ?_
    refine lv_isub hx hb dX8_takeClose_45 ?_
    refine lv_topi (fun z_18 ez_18 => ?_)
    have kz_18 : (z_18).toInt = (uo).toInt - (1 : Int) := by rw [ez_18]; exact z_sub (a := (uo).toInt) (b := (1 : Int)) rfl rfl (by omega) (by omega)
    refine va_put (D := (dC, dI)) (ci := 8) (v := .int z_18) (ty := .int) (C := RX8) (T := TX8) (N := 9) hx hb hts hiX8 tyX8 tyX8_ok nmX8 hown hK hP hD hS 2 rfl rfl 5 (by decide) w__fieldLink_RX8_27_ShellHeap_RulesReader_open_I_ (fun _ h9 => h9) rfl (by decide +kernel) rfl rfl (Nat.le_of_ble_eq_true rfl) dX8_takeClose_46 (fun H_19 locs hP hD hS => ?_)
    have hP : va_P (dC, dI) vwCl [(a_tp, .inr (10, [.ref a_tb, .int tt, .int ta, .int tj, .int tf, .int ts, .int te, .int to, .int tg, .int tx, .int ty])), (a_tb, .inl (ca_tb, 700, .inl fa_tb)), (h0, .inr (8, [.ref a_tp, .ref a_t1, .ref a_t2, .ref a_w1, .int z_16, .int z_18, .int up, .ref a_dr, h0_8])), (a_w1, .inl (ca_w1, 104, .inl fa_w1)), (a_dr, .inr (7, [.ref a_d1, .ref a_d2, .ref a_d3, .int n_a_dr_length_10, .int rc, .int rk])), (a_d1, .inl (ca_d1, 96, .inl g_a_d1_11)), (a_d2, .inl (ca_d2, 96, .inl g_a_d2_12)), (a_d3, .inl (ca_d3, 7, .inl fa_d3))] H_19 := hP
    have hD : va_D A [(a_tp, .inr (10, [.ref a_tb, .int tt, .int ta, .int tj, .int tf, .int ts, .int te, .int to, .int tg, .int tx, .int ty])), (a_tb, .inl (ca_tb, 700, .inl fa_tb)), (h0, .inr (8, [.ref a_tp, .ref a_t1, .ref a_t2, .ref a_w1, .int z_16, .int z_18, .int up, .ref a_dr, h0_8])), (a_w1, .inl (ca_w1, 104, .inl fa_w1)), (a_dr, .inr (7, [.ref a_d1, .ref a_d2, .ref a_d3, .int n_a_dr_length_10, .int rc, .int rk])), (a_d1, .inl (ca_d1, 96, .inl g_a_d1_11)), (a_d2, .inl (ca_d2, 96, .inl g_a_d2_12)), (a_d3, .inl (ca_d3, 7, .inl fa_d3))] := hD
    refine lv_iconst (v := 1) hx hb dX8_takeClose_49 (by decide) ?_
    have hP9 := hP.sub (ws' := [(h0, .inr (8, [.ref a_tp, .ref a_t1, .ref a_t2, .ref a_w1, .int z_16, .int z_18, .int up, .ref a_dr, h0_8])), (a_w1, .inl (ca_w1, 104, .inl fa_w1)), (a_tp, .inr (10, [.ref a_tb, .int tt, .int ta, .int tj, .int tf, .int ts, .int te, .int to, .int tg, .int tx, .int ty])), (a_tb, .inl (ca_tb, 700, .inl fa_tb)), (a_dr, .inr (7, [.ref a_d1, .ref a_d2, .ref a_d3, .int n_a_dr_length_10, .int rc, .int rk])), (a_d1, .inl (ca_d1, 96, .inl g_a_d1_11)), (a_d2, .inl (ca_d2, 96, .inl g_a_d2_12)), (a_d3, .inl (ca_d3, 7, .inl fa_d3))]) [2, 3, 0, 1, 4, 5, 6, 7] rfl
    have hD9 := hD.sub (ws' := [(h0, .inr (8, [.ref a_tp, .ref a_t1, .ref a_t2, .ref a_w1, .int z_16, .int z_18, .int up, .ref a_dr, h0_8])), (a_w1, .inl (ca_w1, 104, .inl fa_w1)), (a_tp, .inr (10, [.ref a_tb, .int tt, .int ta, .int tj, .int tf, .int ts, .int te, .int to, .int tg, .int tx, .int ty])), (a_tb, .inl (ca_tb, 700, .inl fa_tb)), (a_dr, .inr (7, [.ref a_d1, .ref a_d2, .ref a_d3, .int n_a_dr_length_10, .int rc, .int rk])), (a_d1, .inl (ca_d1, 96, .inl g_a_d1_11)), (a_d2, .inl (ca_d2, 96, .inl g_a_d2_12)), (a_d3, .inl (ca_d3, 7, .inl fa_d3))]) [2, 3, 0, 1, 4, 5, 6, 7] (by decide) rfl
    have hK9 := hK.sub (tys' := []) [] rfl
    refine W.widen (k := 0) (n := 0) (Nat.le_of_ble_eq_true rfl) (Nat.le_of_ble_eq_true rfl) ?_
    exact W.zret (v := 1) hx hb hr (by rfl) (fun t ht hW => ⟨⟨1, (), rfl, (show ((0 : Int) ≤ (1 : Int) ∧ (1 : Int) ≤ (1 : Int)) by omega), ⟨z_16, z_18, tx, ty, n_a_dr_length_10, g_a_d1_11, g_a_d2_12, (by first | omega | decide), (by first | omega | decide), (by first | omega | decide), by rw [ht]; exact hP9, va_K.moved hW.alike hK9, hD9⟩⟩, hS.F ht⟩) hS.2.2 dX8_takeClose_50
  · have k_20 : (uo).toInt = (0 : Int) := z_eq c_1
    obtain rfl : uo = 0 := z_eq' (show (uo).toInt = (0 : Int) by omega)
    refine lv_aload_n hx hb dX8_takeClose_7 rfl (lv_at hl 0 rfl) ?_
    refine va_get (D := (dC, dI)) (ci := 8) (v := .ref a_tp) (C := RX8) (T := TX8) (N := 9) hx hb hts hiX8 hown hK hP 0 rfl rfl 0 (by decide) w__fieldLink_RX8_42_ShellHeap_RulesReader_tape_LShellHeap_Tape_ (fun _ h9 => h9) rfl dX8_takeClose_8 ?_
    refine lv_iconst (v := 1) hx hb dX8_takeClose_11 (by decide) ?_
    have hPc := hP.sub (ws' := [(a_tp, .inr (10, [.ref a_tb, .int tt, .int ta, .int tj, .int tf, .int ts, .int te, .int to, .int tg, .int tx, .int ty]))]) [2] rfl
    have hDc := hD.sub (ws' := [(a_tp, .inr (10, [.ref a_tb, .int tt, .int ta, .int tj, .int tf, .int ts, .int te, .int to, .int tg, .int tx, .int ty]))]) [2] (by decide) rfl
    have hKc := hK.sub (tys' := []) [] rfl
    have hFc := va_free (wc := [(a_tp, .inr (10, [.ref a_tb, .int tt, .int ta, .int tj, .int tf, .int ts, .int te, .int to, .int tg, .int tx, .int ty]))]) hD hS hA [2] rfl
    refine va_calli (va_runV (As := [.int 1]) (rest := []) ⟨hx, hb, hml, hown, hts⟩ (s_X10_fail l dC dI s.heap.size a_tp 1 (.ref a_tb) (.int tt) (.int ta) (.int tj) (.int tf) ts (.int te) (.int to) (.int tg) tx ty (by first | omega | decide)) (cwV 1 hts gw_s_X8_takeClose_s_X10_fail_67 rfl rfl rfl (by decide +kernel) ⟨Nat.le_of_ble_eq_true rfl, Nat.le_of_ble_eq_true rfl⟩) ⟨z_blind, va_recv hKc hPc (ci := 10) (q0 := 0) rfl rfl, z_pre hPc hKc hDc⟩ rfl rfl hl.1 rfl (lv_room (Nat.le_of_ble_eq_true rfl)) dX8_takeClose_12 ⟨Nat.le_of_ble_eq_true rfl, Nat.le_of_ble_eq_true rfl⟩) hS (fun q _ h => hFc q h) hFc (fun r_23 u t H_22 locs ht hvm hw_24 hB hz1 hk1 hS => ?_)
    obtain ⟨n_h0_faultSort_25, n_h0_faultPlace_26, hP1, hK1, hD1⟩ := hB
    rw [ht] at hP1
    have hK1 := va_K.moved hvm.symm hK1
    obtain ⟨hP, hD⟩ := va_join (wr := [(h0, .inr (8, [.ref a_tp, .ref a_t1, .ref a_t2, .ref a_w1, .int uw, .int 0, .int up, .ref a_dr, h0_8])), (a_w1, .inl (ca_w1, 104, .inl fa_w1)), (a_tb, .inl (ca_tb, 700, .inl fa_tb)), (a_dr, .inr (7, [.ref a_d1, .ref a_d2, .ref a_d3, .int rl, .int rc, .int rk])), (a_d1, .inl (ca_d1, 96, .inl fa_d1)), (a_d2, .inl (ca_d2, 96, .inl fa_d2)), (a_d3, .inl (ca_d3, 7, .inl fa_d3))]) (w1 := [(a_tp, .inr (10, [.ref a_tb, .int tt, .int ta, .int tj, .int tf, .int ts, .int te, .int to, .int tg, .int n_h0_faultSort_25, .int n_h0_faultPlace_26]))]) hP hD [2] [0, 1, 3, 4, 5, 6, 7] rfl rfl (by decide) (by decide) hk1 hFc hP1 hD1
    have hP : va_P (dC, dI) vwCl [(h0, .inr (8, [.ref a_tp, .ref a_t1, .ref a_t2, .ref a_w1, .int uw, .int 0, .int up, .ref a_dr, h0_8])), (a_w1, .inl (ca_w1, 104, .inl fa_w1)), (a_tb, .inl (ca_tb, 700, .inl fa_tb)), (a_dr, .inr (7, [.ref a_d1, .ref a_d2, .ref a_d3, .int rl, .int rc, .int rk])), (a_d1, .inl (ca_d1, 96, .inl fa_d1)), (a_d2, .inl (ca_d2, 96, .inl fa_d2)), (a_d3, .inl (ca_d3, 7, .inl fa_d3)), (a_tp, .inr (10, [.ref a_tb, .int tt, .int ta, .int tj, .int tf, .int ts, .int te, .int to, .int tg, .int n_h0_faultSort_25, .int n_h0_faultPlace_26]))] H_22 := hP
    have hD : va_D A [(h0, .inr (8, [.ref a_tp, .ref a_t1, .ref a_t2, .ref a_w1, .int uw, .int 0, .int up, .ref a_dr, h0_8])), (a_w1, .inl (ca_w1, 104, .inl fa_w1)), (a_tb, .inl (ca_tb, 700, .inl fa_tb)), (a_dr, .inr (7, [.ref a_d1, .ref a_d2, .ref a_d3, .int rl, .int rc, .int rk])), (a_d1, .inl (ca_d1, 96, .inl fa_d1)), (a_d2, .inl (ca_d2, 96, .inl fa_d2)), (a_d3, .inl (ca_d3, 7, .inl fa_d3)), (a_tp, .inr (10, [.ref a_tb, .int tt, .int ta, .int tj, .int tf, .int ts, .int te, .int to, .int tg, .int n_h0_faultSort_25, .int n_h0_faultPlace_26]))] := hD
    clear hPc hDc hKc
    obtain rfl : r_23 = 0 := hw_24
    have hP9 := hP.sub (ws' := [(h0, .inr (8, [.ref a_tp, .ref a_t1, .ref a_t2, .ref a_w1, .int uw, .int 0, .int up, .ref a_dr, h0_8])), (a_w1, .inl (ca_w1, 104, .inl fa_w1)), (a_tp, .inr (10, [.ref a_tb, .int tt, .int ta, .int tj, .int tf, .int ts, .int te, .int to, .int tg, .int n_h0_faultSort_25, .int n_h0_faultPlace_26])), (a_tb, .inl (ca_tb, 700, .inl fa_tb)), (a_dr, .inr (7, [.ref a_d1, .ref a_d2, .ref a_d3, .int rl, .int rc, .int rk])), (a_d1, .inl (ca_d1, 96, .inl fa_d1)), (a_d2, .inl (ca_d2, 96, .inl fa_d2)), (a_d3, .inl (ca_d3, 7, .inl fa_d3))]) [0, 1, 7, 2, 3, 4, 5, 6] rfl
    have hD9 := hD.sub (ws' := [(h0, .inr (8, [.ref a_tp, .ref a_t1, .ref a_t2, .ref a_w1, .int uw, .int 0, .int up, .ref a_dr, h0_8])), (a_w1, .inl (ca_w1, 104, .inl fa_w1)), (a_tp, .inr (10, [.ref a_tb, .int tt, .int ta, .int tj, .int tf, .int ts, .int te, .int to, .int tg, .int n_h0_faultSort_25, .int n_h0_faultPlace_26])), (a_tb, .inl (ca_tb, 700, .inl fa_tb)), (a_dr, .inr (7, [.ref a_d1, .ref a_d2, .ref a_d3, .int rl, .int rc, .int rk])), (a_d1, .inl (ca_d1, 96, .inl fa_d1)), (a_d2, .inl (ca_d2, 96, .inl fa_d2)), (a_d3, .inl (ca_d3, 7, .inl fa_d3))]) [0, 1, 7, 2, 3, 4, 5, 6] (by decide) rfl
    have hK9 := hK.sub (tys' := []) [] rfl
    refine W.widen (k := 0) (n := 0) (Nat.le_of_ble_eq_true rfl) (Nat.le_of_ble_eq_true rfl) ?_
    exact W.zret (v := 0) hx hb hr (by rfl) (fun t ht hW => ⟨⟨0, (), rfl, (show ((0 : Int) ≤ (0 : Int) ∧ (0 : Int) ≤ (1 : Int)) by omega), ⟨uw, 0, n_h0_faultSort_25, n_h0_faultPlace_26, rl, fa_d1, fa_d2, (by first | omega | decide), (by first | omega | decide), (by first | omega | decide), by rw [ht]; exact hP9, va_K.moved hW.alike hK9, hD9⟩⟩, hS.F ht⟩) hS.2.2 dX8_takeClose_15
