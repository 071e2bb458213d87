def u_s_X8_takeClose : List Cond := .code yX8_takeClose cX8_takeClose 1 (some .boolean) :: ([.fieldLink RX8 27 "ShellHeap$RulesReader" "open" "I", .methodLink RX8 103 yX8_tightness, .static yX8_tightness, .initialized RX8, .methodLink RX8 107 yX8_settle, .instanceMethod yX8_settle, .selects RX8 yX8_settle yX8_settle, .fieldLink RX8 23 "ShellHeap$RulesReader" "waits" "I", .methodLink RX8 160 Lib.Math.max.name, .static Lib.Math.max.name, .initialized "java/lang/Math", .code Lib.Math.max.name Lib.Math.max.code 2 (some .int), .fieldLink RX8 42 "ShellHeap$RulesReader" "tape" "LShellHeap$Tape;", .methodLink RX8 67 yX10_fail, .instanceMethod yX10_fail, .selects RX10 yX10_fail yX10_fail, .initialized RX10] ++ (wsX80 ++ (u_s_X8_tightness ++ (u_s_X8_settle ++ (u_s_X10_fail ++ [])))))
theorem gd_s_X8_takeClose : z_gd u_s_X8_takeClose := z_gdc (by decide +kernel) (z_gda gdX8 (z_gda gd_s_X8_tightness (z_gda gd_s_X8_settle (z_gda gd_s_X10_fail (z_gd0)))))
set_option maxRecDepth 20000 in
theorem gw_s_X8_takeClose_s_X8_tightness_103 : GoodIn u_s_X8_takeClose (va_wsS RX8 103 yX8_tightness u_s_X8_tightness) := z_gS (z_gr _ [2, 3, 4] rfl (by decide +kernel)) (fun w h => ⟨z_mc (z_mr (z_mr (z_ml h))), gd_s_X8_tightness w h⟩)
set_option maxRecDepth 20000 in
theorem gw_s_X8_takeClose_s_X8_settle_107 : GoodIn u_s_X8_takeClose (wsV RX8 107 RX8 yX8_settle u_s_X8_settle) := z_gV (z_gr _ [5, 6, 7, 4] rfl (by decide +kernel)) (fun w h => ⟨z_mc (z_mr (z_mr (z_mr (z_ml h)))), gd_s_X8_settle w h⟩)
set_option maxRecDepth 20000 in
theorem gw_s_X8_takeClose_s_X10_fail_67 : GoodIn u_s_X8_takeClose (wsV RX8 67 RX10 yX10_fail u_s_X10_fail) := z_gV (z_gr _ [14, 15, 16, 17] rfl (by decide +kernel)) (fun w h => ⟨z_mc (z_mr (z_mr (z_mr (z_mr (z_ml h))))), gd_s_X10_fail w h⟩)
set_option maxHeartbeats 4000000 in
set_option maxRecDepth 100000 in
theorem s_X8_takeClose (l : Launch) (dC : Nat → ClassId) (dI : Nat → Nat → Nat) (sz : Nat) (h0 : Nat) (a_tp : Nat) (a_t1 : Nat) (a_t2 : Nat) (a_w1 : Nat) (uw : Int32) (uo : Int32) (up : Int32) (a_dr : Nat) (h0_8 : Value) (ca_w1 : ClassId) (fa_w1 : Nat → Int32) (a_tb : Nat) (tt : Int32) (ta : Int32) (tj : Int32) (tf : Int32) (ts : Int32) (te : Int32) (to : Int32) (tg : Int32) (tx : Int32) (ty : Int32) (ca_tb : ClassId) (fa_tb : Nat → Int32) (a_d1 : Nat) (a_d2 : Nat) (a_d3 : Nat) (rl : Int32) (rc : Int32) (rk : Int32) (ca_d1 : ClassId) (fa_d1 : Nat → Int32) (ca_d2 : ClassId) (fa_d2 : Nat → Int32) (ca_d3 : ClassId) (fa_d3 : Nat → Int32) (hB_tt : ((0 : Int) ≤ (tt).toInt ∧ (tt).toInt ≤ (700 : Int))) (hB_ta : ((0 : Int) ≤ (ta).toInt ∧ (ta).toInt ≤ (700 : Int))) (hB_tf : ((0 : Int) ≤ (tf).toInt ∧ (tf).toInt ≤ (700 : Int))) (hB_ts : ((0 : Int) ≤ (ts).toInt ∧ (ts).toInt ≤ (700 : Int))) (hB_te : ((0 : Int) ≤ (te).toInt ∧ (te).toInt ≤ (700 : Int))) (hB_uw : ((0 : Int) ≤ (uw).toInt ∧ (uw).toInt ≤ (104 : Int))) (hB_uo : ((0 : Int) ≤ (uo).toInt ∧ (uo).toInt ≤ (8 : Int))) (hB_up : ((0 : Int) ≤ (up).toInt ∧ (up).toInt ≤ (1 : Int))) (hB_rl : ((0 : Int) ≤ (rl).toInt ∧ (rl).toInt ≤ (96 : Int))) (hB_rc : ((0 : Int) ≤ (rc).toInt ∧ (rc).toInt ≤ (6 : Int))) (hB_rk : ((0 : Int) ≤ (rk).toInt ∧ (rk).toInt ≤ (96 : Int))) (hI_a_tb : ∀ j : Nat, ((0 : Int) ≤ (fa_tb j).toInt ∧ (fa_tb j).toInt ≤ (255 : Int))) (hI_a_d3 : ∀ j : Nat, ((0 : Int) ≤ (fa_d3 j).toInt ∧ (fa_d3 j).toInt ≤ (96 : Int))) : Met l yX8_takeClose u_s_X8_takeClose ({ frames := 2, cells := 0, slots := 0, locals := 43 }) (va_Pc [.ref h0] (z_C (dC, dI) vwCl [(h0, .inr (8, [.ref a_tp, .ref a_t1, .ref a_t2, .ref a_w1, .int uw, .int uo, .int up, .ref a_dr, h0_8])), (a_w1, .inl (ca_w1, 104, .inl fa_w1)), (a_tp, .inr (10, [.ref a_tb, .int tt, .int ta, .int tj, .int tf, .int ts, .int te, .int to, .int tg, .int tx, .int ty])), (a_tb, .inl (ca_tb, 700, .inl fa_tb)), (a_dr, .inr (7, [.ref a_d1, .ref a_d2, .ref a_d3, .int rl, .int rc, .int rk])), (a_d1, .inl (ca_d1, 96, .inl fa_d1)), (a_d2, .inl (ca_d2, 96, .inl fa_d2)), (a_d3, .inl (ca_d3, 7, .inl fa_d3))] [(ca_w1, .int), (ca_tb, .int), (ca_d1, .int), (ca_d2, .int), (ca_d3, .int)] sz)) (va_Qi (fun (r : Int32) (_ : Unit) => ((0 : Int) ≤ (r).toInt ∧ (r).toInt ≤ (1 : Int))) (fun (_ : Unit) (t : State) => ∃ (n_h0_waits : Int32), ∃ (n_h0_open : Int32), ∃ (n_a_tp_faultSort : Int32), ∃ (n_a_tp_faultPlace : Int32), ∃ (n_a_dr_length : Int32), ∃ (g_a_d1 : Nat → Int32), ∃ (g_a_d2 : Nat → Int32), ((0 : Int) ≤ (n_h0_waits).toInt ∧ (n_h0_waits).toInt ≤ (104 : Int)) ∧ ((0 : Int) ≤ (n_h0_open).toInt ∧ (n_h0_open).toInt ≤ (8 : Int)) ∧ ((0 : Int) ≤ (n_a_dr_length).toInt ∧ (n_a_dr_length).toInt ≤ (96 : Int)) ∧ va_P (dC, dI) vwCl [(h0, .inr (8, [.ref a_tp, .ref a_t1, .ref a_t2, .ref a_w1, .int n_h0_waits, .int n_h0_open, .int up, .ref a_dr, h0_8])), (a_w1, .inl (ca_w1, 104, .inl fa_w1)), (a_tp, .inr (10, [.ref a_tb, .int tt, .int ta, .int tj, .int tf, .int ts, .int te, .int to, .int tg, .int n_a_tp_faultSort, .int n_a_tp_faultPlace])), (a_tb, .inl (ca_tb, 700, .inl fa_tb)), (a_dr, .inr (7, [.ref a_d1, .ref a_d2, .ref a_d3, .int n_a_dr_length, .int rc, .int rk])), (a_d1, .inl (ca_d1, 96, .inl g_a_d1)), (a_d2, .inl (ca_d2, 96, .inl g_a_d2)), (a_d3, .inl (ca_d3, 7, .inl fa_d3))] t.heap ∧ va_K (dC, dI) vwCl [] t ∧ va_D (va_A [(h0, .inr (8, [.ref a_tp, .ref a_t1, .ref a_t2, .ref a_w1, .int uw, .int uo, .int up, .ref a_dr, h0_8])), (a_w1, .inl (ca_w1, 104, .inl fa_w1)), (a_tp, .inr (10, [.ref a_tb, .int tt, .int ta, .int tj, .int tf, .int ts, .int te, .int to, .int tg, .int tx, .int ty])), (a_tb, .inl (ca_tb, 700, .inl fa_tb)), (a_dr, .inr (7, [.ref a_d1, .ref a_d2, .ref a_d3, .int rl, .int rc, .int rk])), (a_d1, .inl (ca_d1, 96, .inl fa_d1)), (a_d2, .inl (ca_d2, 96, .inl fa_d2)), (a_d3, .inl (ca_d3, 7, .inl fa_d3))] sz) [(h0, .inr (8, [.ref a_tp, .ref a_t1, .ref a_t2, .ref a_w1, .int n_h0_waits, .int n_h0_open, .int up, .ref a_dr, h0_8])), (a_w1, .inl (ca_w1, 104, .inl fa_w1)), (a_tp, .inr (10, [.ref a_tb, .int tt, .int ta, .int tj, .int tf, .int ts, .int te, .int to, .int tg, .int n_a_tp_faultSort, .int n_a_tp_faultPlace])), (a_tb, .inl (ca_tb, 700, .inl fa_tb)), (a_dr, .inr (7, [.ref a_d1, .ref a_d2, .ref a_d3, .int n_a_dr_length, .int rc, .int rk])), (a_d1, .inl (ca_d1, 96, .inl g_a_d1)), (a_d2, .inl (ca_d2, 96, .inl g_a_d2)), (a_d3, .inl (ca_d3, 7, .inl fa_d3))]) (va_A [(h0, .inr (8, [.ref a_tp, .ref a_t1, .ref a_t2, .ref a_w1, .int uw, .int uo, .int up, .ref a_dr, h0_8])), (a_w1, .inl (ca_w1, 104, .inl fa_w1)), (a_tp, .inr (10, [.ref a_tb, .int tt, .int ta, .int tj, .int tf, .int ts, .int te, .int to, .int tg, .int tx, .int ty])), (a_tb, .inl (ca_tb, 700, .inl fa_tb)), (a_dr, .inr (7, [.ref a_d1, .ref a_d2, .ref a_d3, .int rl, .int rc, .int rk])), (a_d1, .inl (ca_d1, 96, .inl fa_d1)), (a_d2, .inl (ca_d2, 96, .inl fa_d2)), (a_d3, .inl (ca_d3, 7, .inl fa_d3))] sz)) 0 0 (va_A [(h0, .inr (8, [.ref a_tp, .ref a_t1, .ref a_t2, .ref a_w1, .int uw, .int uo, .int up, .ref a_dr, h0_8])), (a_w1, .inl (ca_w1, 104, .inl fa_w1)), (a_tp, .inr (10, [.ref a_tb, .int tt, .int ta, .int tj, .int tf, .int ts, .int te, .int to, .int tg, .int tx, .int ty])), (a_tb, .inl (ca_tb, 700, .inl fa_tb)), (a_dr, .inr (7, [.ref a_d1, .ref a_d2, .ref a_d3, .int rl, .int rc, .int rk])), (a_d1, .inl (ca_d1, 96, .inl fa_d1)), (a_d2, .inl (ca_d2, 96, .inl fa_d2)), (a_d3, .inl (ca_d3, 7, .inl fa_d3))] sz) := by
  refine Met.ofW (cc := cX8_takeClose) (maxL := 1) (ret := (some .boolean)) (by decide) rfl ?_
  intro p e s m args below meth c s₁ B hml hv
  obtain ⟨rfl, hsz, hP, hK, hD0⟩ := hv
  have hx := B.exec
  have hb := B.bytes
  have hr := B.returns
  have hts := atoms_spec (ws := u_s_X8_takeClose) B.pre
  have hown : s.vm.findClass RX8 = some m.cls := findClass_of_methodNamed B.named
  have hlocks := B.notSynchronized
  subst hsz
  have hD := hD0.self (sz := s.heap.size)
  generalize hAe : va_A [(h0, .inr (8, [.ref a_tp, .ref a_t1, .ref a_t2, .ref a_w1, .int uw, .int uo, .int up, .ref a_dr, h0_8])), (a_w1, .inl (ca_w1, 104, .inl fa_w1)), (a_tp, .inr (10, [.ref a_tb, .int tt, .int ta, .int tj, .int tf, .int ts, .int te, .int to, .int tg, .int tx, .int ty])), (a_tb, .inl (ca_tb, 700, .inl fa_tb)), (a_dr, .inr (7, [.ref a_d1, .ref a_d2, .ref a_d3, .int rl, .int rc, .int rk])), (a_d1, .inl (ca_d1, 96, .inl fa_d1)), (a_d2, .inl (ca_d2, 96, .inl fa_d2)), (a_d3, .inl (ca_d3, 7, .inl fa_d3))] s.heap.size = A at hD ⊢
  have hA : ∀ q : Nat, s.heap.size ≤ q → A q := fun q h => by rw [← hAe]; exact Or.inr h
  have hS : va_S A s.heap s.heap [] := va_S.rf
  have hP : va_P (dC, dI) vwCl [(h0, .inr (8, [.ref a_tp, .ref a_t1, .ref a_t2, .ref a_w1, .int uw, .int uo, .int up, .ref a_dr, h0_8])), (a_w1, .inl (ca_w1, 104, .inl fa_w1)), (a_tp, .inr (10, [.ref a_tb, .int tt, .int ta, .int tj, .int tf, .int ts, .int te, .int to, .int tg, .int tx, .int ty])), (a_tb, .inl (ca_tb, 700, .inl fa_tb)), (a_dr, .inr (7, [.ref a_d1, .ref a_d2, .ref a_d3, .int rl, .int rc, .int rk])), (a_d1, .inl (ca_d1, 96, .inl fa_d1)), (a_d2, .inl (ca_d2, 96, .inl fa_d2)), (a_d3, .inl (ca_d3, 7, .inl fa_d3))] s.heap := hP
  have w__fieldLink_RX8_27_ShellHeap_RulesReader_open_I_ := hts (.fieldLink RX8 27 "ShellHeap$RulesReader" "open" "I") (z_mc (z_ml z_m0))
  have hiX8 := show ∀ w ∈ u_ws RX8 TX8 9, w ∈ u_s_X8_takeClose from fun w h => z_mc (z_mr (z_ml h))
  have w__fieldLink_RX8_23_ShellHeap_RulesReader_waits_I_ := hts (.fieldLink RX8 23 "ShellHeap$RulesReader" "waits" "I") (z_mc (z_ml z_m7))
  have w__methodLink_RX8_160_Lib_Math_max_name := hts (.methodLink RX8 160 Lib.Math.max.name) (z_mc (z_ml z_m8))
  have w__static_Lib_Math_max_name := hts (.static Lib.Math.max.name) (z_mc (z_ml z_m9))
  have w__initialized_java_lang_Math_ := hts (.initialized "java/lang/Math") (z_mc (z_ml z_m10))
  have w__code_Lib_Math_max_name_Lib_Math_max_code_2_some_int_ := hts (.code Lib.Math.max.name Lib.Math.max.code 2 (some .int)) (z_mc (z_ml z_m11))
  have w__fieldLink_RX8_42_ShellHeap_RulesReader_tape_LShellHeap_Tape_ := hts (.fieldLink RX8 42 "ShellHeap$RulesReader" "tape" "LShellHeap$Tape;") (z_mc (z_ml z_m12))
  have hl := lv_entry ([.ref h0]) (n := 1) (Nat.le_of_ble_eq_true rfl)
  rw [lg_entry_eq]
  generalize (lg_sl ([.ref h0]) ++ List.replicate (1 - (lg_sl ([.ref h0])).length) Slot.unset).toArray = ls at hl ⊢
  have hl : lv_has ls 1 [(0, .ref h0)] := hl
  refine lv_aload_n hx hb dX8_takeClose_0 rfl (lv_at hl 0 rfl) ?_
  refine va_get (D := (dC, dI)) (ci := 8) (v := .int uo) (C := RX8) (T := TX8) (N := 9) hx hb hts hiX8 hown hK hP 0 rfl rfl 5 (by decide) w__fieldLink_RX8_27_ShellHeap_RulesReader_open_I_ (fun _ h9 => h9) rfl dX8_takeClose_1 ?_
  refine lv_if_ne (tgt := 16) hx hb dX8_takeClose_4 (by decide) (fun c_1 => ?_) (fun c_1 => ?_)
  · have k_2 : (uo).toInt ≠ (0 : Int) := z_ne c_1
    refine lv_aload_n hx hb dX8_takeClose_16 rfl (lv_at hl 0 rfl) ?_
    refine lv_bipush (v := 10) hx hb dX8_takeClose_17 (by decide) ?_
    obtain ⟨hPc, hDc⟩ := z_sub2 (ws' := []) hP hD [] (by decide) rfl
    have hKc := hK.sub (tys' := []) [] rfl
    have hFc := va_free (ws := []) (wc := []) (z_D0 _) hS hA [] rfl
    refine va_calli (va_runS (As := [.int 10]) (rest := [.ref h0]) ⟨hx, hb, hml, hown, hts⟩ (s_X8_tightness l dC dI s.heap.size 10) (va_cwS 1 hts gw_s_X8_takeClose_s_X8_tightness_103 rfl rfl rfl (by decide +kernel) ⟨Nat.le_of_ble_eq_true rfl, Nat.le_of_ble_eq_true rfl⟩) ⟨z_blind, z_pre hPc hKc hDc⟩ rfl rfl hl.1 rfl (lv_room (Nat.le_of_ble_eq_true rfl)) dX8_takeClose_19 ⟨Nat.le_of_ble_eq_true rfl, Nat.le_of_ble_eq_true rfl⟩) hS (fun q _ h => hFc q h) hFc (fun r_4 u t H_3 locs ht hvm hw_5 hB hz1 hk1 hS => ?_)
    replace hP := z_pure hP hk1
    clear hPc hDc hKc
    obtain ⟨hPc, hDc, hFc⟩ := z_sub3 (ws' := [(h0, .inr (8, [.ref a_tp, .ref a_t1, .ref a_t2, .ref a_w1, .int uw, .int uo, .int up, .ref a_dr, h0_8])), (a_w1, .inl (ca_w1, 104, .inl fa_w1)), (a_dr, .inr (7, [.ref a_d1, .ref a_d2, .ref a_d3, .int rl, .int rc, .int rk])), (a_d1, .inl (ca_d1, 96, .inl fa_d1)), (a_d2, .inl (ca_d2, 96, .inl fa_d2)), (a_d3, .inl (ca_d3, 7, .inl fa_d3))]) hP hD hS hA [0, 1, 4, 5, 6, 7] (by decide) rfl
    have hKc := hK.sub (tys' := [(ca_w1, .int), (ca_d1, .int), (ca_d2, .int), (ca_d3, .int)]) [0, 2, 3, 4] rfl
    refine va_callv (va_runV (As := [.int r_4]) (rest := []) ⟨hx, hb, hml, hown, hts⟩ (s_X8_settle l dC dI H_3.size h0 r_4 a_tp a_t1 a_t2 a_w1 uw uo up a_dr h0_8 ca_w1 fa_w1 a_d1 a_d2 a_d3 rl rc rk ca_d1 fa_d1 ca_d2 fa_d2 ca_d3 fa_d3 hB_uw hB_uo hB_up hB_rl hB_rc hB_rk hI_a_d3) (cwV 1 hts gw_s_X8_takeClose_s_X8_settle_107 rfl rfl rfl (by decide +kernel) ⟨Nat.le_of_ble_eq_true rfl, Nat.le_of_ble_eq_true rfl⟩) ⟨z_blind, va_recv hKc hPc (ci := 8) (q0 := 0) rfl rfl, z_pre hPc hKc hDc⟩ rfl rfl hl.1 rfl (lv_room (Nat.le_of_ble_eq_true rfl)) dX8_takeClose_22 ⟨Nat.le_of_ble_eq_true rfl, Nat.le_of_ble_eq_true rfl⟩) hS (fun q _ h => hFc q h) hFc (fun u t H_6 locs ht hvm hw_8 hB hz1 hk1 hS => ?_)
    obtain ⟨n_h0_waits_9, n_a_dr_length_10, g_a_d1_11, g_a_d2_12, hp_13, hp_14, hP1, hK1, hD1⟩ := hB
    rw [ht] at hP1
    have hK1 := va_K.moved hvm.symm hK1
    obtain ⟨hP, hD⟩ := z_ap_2 (va_join (wr := [(a_tp, .inr (10, [.ref a_tb, .int tt, .int ta, .int tj, .int tf, .int ts, .int te, .int to, .int tg, .int tx, .int ty])), (a_tb, .inl (ca_tb, 700, .inl fa_tb))]) hP hD [0, 1, 4, 5, 6, 7] [2, 3] rfl rfl (by decide) (by decide) hk1 hFc hP1 hD1)
    clear hPc hDc hKc
    refine lv_aload_n hx hb dX8_takeClose_25 rfl (lv_at hl 0 rfl) ?_
    refine lv_aload_n hx hb dX8_takeClose_26 rfl (lv_at hl 0 rfl) ?_
    refine va_get (D := (dC, dI)) (ci := 8) (v := .int n_h0_waits_9) (C := RX8) (T := TX8) (N := 9) hx hb hts hiX8 hown hK hP 2 rfl rfl 4 (by decide) w__fieldLink_RX8_23_ShellHeap_RulesReader_waits_I_ (fun _ h9 => h9) rfl dX8_takeClose_27 ?_
    refine lv_iconst (v := 1) hx hb dX8_takeClose_30 (by decide) ?_
    refine lv_isub hx hb dX8_takeClose_31 ?_
    refine lv_topi (fun z_15 ez_15 => ?_)
    have kz_15 : (z_15).toInt = (n_h0_waits_9).toInt - (1 : Int) := by rw [ez_15]; exact z_sub (a := (n_h0_waits_9).toInt) (b := (1 : Int)) rfl rfl (z_mlo hp_13.1 (by decide)) (z_mhi hp_13.2 (by decide))
    refine lv_iconst (v := 0) hx hb dX8_takeClose_32 (by decide) ?_
    refine va_mmax hx hb (hml.trans hl.1.symm) hown w__methodLink_RX8_160_Lib_Math_max_name w__static_Lib_Math_max_name w__initialized_java_lang_Math_ w__code_Lib_Math_max_name_Lib_Math_max_code_2_some_int_ (Nat.le_of_ble_eq_true rfl) (Nat.le_of_ble_eq_true rfl) (Nat.le_of_ble_eq_true rfl) (Nat.le_of_ble_eq_true rfl) dX8_takeClose_33 ?_
    refine lv_topi (fun z_16 ez_16 => ?_)
    have kz_16 : ((z_16).toInt = (z_15).toInt ∨ (z_16).toInt = (0 : Int)) ∧ (z_16).toInt ≥ (z_15).toInt ∧ (z_16).toInt ≥ (0 : Int) := z_max ez_16
    refine va_put (D := (dC, dI)) (ci := 8) (v := .int z_16) (ty := .int) (C := RX8) (T := TX8) (N := 9) hx hb hts hiX8 tyX8 tyX8_ok nmX8 hown hK hP hD hS 2 rfl rfl 4 (by decide) w__fieldLink_RX8_23_ShellHeap_RulesReader_waits_I_ (fun _ h9 => h9) rfl (by decide +kernel) rfl rfl (Nat.le_of_ble_eq_true rfl) dX8_takeClose_36 (fun H_17 locs hP hD hS => ?_)
    obtain ⟨hP, hD⟩ := z_s_2_4 hP hD
    refine lv_aload_n hx hb dX8_takeClose_39 rfl (lv_at hl 0 rfl) ?_
    refine lv_dup hx hb dX8_takeClose_40 rfl ?_
    refine va_get (D := (dC, dI)) (ci := 8) (v := .int uo) (C := RX8) (T := TX8) (N := 9) hx hb hts hiX8 hown hK hP 2 rfl rfl 5 (by decide) w__fieldLink_RX8_27_ShellHeap_RulesReader_open_I_ (fun _ h9 => h9) rfl dX8_takeClose_41 ?_
    refine lv_iconst (v := 1) hx hb dX8_takeClose_44 (by decide) ?_
    refine lv_isub hx hb dX8_takeClose_45 ?_
    refine lv_topi (fun z_18 ez_18 => ?_)
    have kz_18 : (z_18).toInt = (uo).toInt - (1 : Int) := by rw [ez_18]; exact z_sub (a := (uo).toInt) (b := (1 : Int)) rfl rfl (z_mlo hB_uo.1 (by decide)) (z_mhi hB_uo.2 (by decide))
    refine va_put (D := (dC, dI)) (ci := 8) (v := .int z_18) (ty := .int) (C := RX8) (T := TX8) (N := 9) hx hb hts hiX8 tyX8 tyX8_ok nmX8 hown hK hP hD hS 2 rfl rfl 5 (by decide) w__fieldLink_RX8_27_ShellHeap_RulesReader_open_I_ (fun _ h9 => h9) rfl (by decide +kernel) rfl rfl (Nat.le_of_ble_eq_true rfl) dX8_takeClose_46 (fun H_19 locs hP hD hS => ?_)
    obtain ⟨hP, hD⟩ := z_s_2_5 hP hD
    refine lv_iconst (v := 1) hx hb dX8_takeClose_49 (by decide) ?_
    obtain ⟨hP9, hD9⟩ := z_sub2 (ws' := [(h0, .inr (8, [.ref a_tp, .ref a_t1, .ref a_t2, .ref a_w1, .int z_16, .int z_18, .int up, .ref a_dr, h0_8])), (a_w1, .inl (ca_w1, 104, .inl fa_w1)), (a_tp, .inr (10, [.ref a_tb, .int tt, .int ta, .int tj, .int tf, .int ts, .int te, .int to, .int tg, .int tx, .int ty])), (a_tb, .inl (ca_tb, 700, .inl fa_tb)), (a_dr, .inr (7, [.ref a_d1, .ref a_d2, .ref a_d3, .int n_a_dr_length_10, .int rc, .int rk])), (a_d1, .inl (ca_d1, 96, .inl g_a_d1_11)), (a_d2, .inl (ca_d2, 96, .inl g_a_d2_12)), (a_d3, .inl (ca_d3, 7, .inl fa_d3))]) hP hD [2, 3, 0, 1, 4, 5, 6, 7] (by decide) rfl
    have hK9 := hK.sub (tys' := []) [] rfl
    refine W.widen (k := 0) (n := 0) (Nat.le_of_ble_eq_true rfl) (Nat.le_of_ble_eq_true rfl) ?_
    exact W.zret (v := 1) hx hb hr (by rfl) (fun t ht hW => ⟨⟨1, (), rfl, (show ((0 : Int) ≤ (1 : Int) ∧ (1 : Int) ≤ (1 : Int)) by decide), ⟨z_16, z_18, tx, ty, n_a_dr_length_10, g_a_d1_11, g_a_d2_12, (by first | omega | decide), (by first | omega | decide), hp_14, by rw [ht]; exact hP9, va_K.moved hW.alike hK9, hD9⟩⟩, hS.F ht⟩) hS.2.2 dX8_takeClose_50
  · have k_20 : (uo).toInt = (0 : Int) := z_eq c_1
    obtain rfl : uo = 0 := z_eq' (show (uo).toInt = (0 : Int) by omega)
    refine lv_aload_n hx hb dX8_takeClose_7 rfl (lv_at hl 0 rfl) ?_
    refine va_get (D := (dC, dI)) (ci := 8) (v := .ref a_tp) (C := RX8) (T := TX8) (N := 9) hx hb hts hiX8 hown hK hP 0 rfl rfl 0 (by decide) w__fieldLink_RX8_42_ShellHeap_RulesReader_tape_LShellHeap_Tape_ (fun _ h9 => h9) rfl dX8_takeClose_8 ?_
    refine lv_iconst (v := 1) hx hb dX8_takeClose_11 (by decide) ?_
    obtain ⟨hPc, hDc, hFc⟩ := z_sub3 (ws' := [(a_tp, .inr (10, [.ref a_tb, .int tt, .int ta, .int tj, .int tf, .int ts, .int te, .int to, .int tg, .int tx, .int ty]))]) hP hD hS hA [2] (by decide) rfl
    have hKc := hK.sub (tys' := []) [] rfl
    refine va_calli (va_runV (As := [.int 1]) (rest := []) ⟨hx, hb, hml, hown, hts⟩ (s_X10_fail l dC dI s.heap.size a_tp 1 (.ref a_tb) (.int tt) (.int ta) (.int tj) (.int tf) ts (.int te) (.int to) (.int tg) tx ty hB_ts) (cwV 1 hts gw_s_X8_takeClose_s_X10_fail_67 rfl rfl rfl (by decide +kernel) ⟨Nat.le_of_ble_eq_true rfl, Nat.le_of_ble_eq_true rfl⟩) ⟨z_blind, va_recv hKc hPc (ci := 10) (q0 := 0) rfl rfl, z_pre hPc hKc hDc⟩ rfl rfl hl.1 rfl (lv_room (Nat.le_of_ble_eq_true rfl)) dX8_takeClose_12 ⟨Nat.le_of_ble_eq_true rfl, Nat.le_of_ble_eq_true rfl⟩) hS (fun q _ h => hFc q h) hFc (fun r_23 u t H_22 locs ht hvm hw_24 hB hz1 hk1 hS => ?_)
    obtain ⟨n_h0_faultSort_25, n_h0_faultPlace_26, hP1, hK1, hD1⟩ := hB
    rw [ht] at hP1
    have hK1 := va_K.moved hvm.symm hK1
    obtain ⟨hP, hD⟩ := z_ap_7 (va_join (wr := [(h0, .inr (8, [.ref a_tp, .ref a_t1, .ref a_t2, .ref a_w1, .int uw, .int 0, .int up, .ref a_dr, h0_8])), (a_w1, .inl (ca_w1, 104, .inl fa_w1)), (a_tb, .inl (ca_tb, 700, .inl fa_tb)), (a_dr, .inr (7, [.ref a_d1, .ref a_d2, .ref a_d3, .int rl, .int rc, .int rk])), (a_d1, .inl (ca_d1, 96, .inl fa_d1)), (a_d2, .inl (ca_d2, 96, .inl fa_d2)), (a_d3, .inl (ca_d3, 7, .inl fa_d3))]) hP hD [2] [0, 1, 3, 4, 5, 6, 7] rfl rfl (by decide) (by decide) hk1 hFc hP1 hD1)
    clear hPc hDc hKc
    obtain rfl : r_23 = 0 := hw_24
    obtain ⟨hP9, hD9⟩ := z_sub2 (ws' := [(h0, .inr (8, [.ref a_tp, .ref a_t1, .ref a_t2, .ref a_w1, .int uw, .int 0, .int up, .ref a_dr, h0_8])), (a_w1, .inl (ca_w1, 104, .inl fa_w1)), (a_tp, .inr (10, [.ref a_tb, .int tt, .int ta, .int tj, .int tf, .int ts, .int te, .int to, .int tg, .int n_h0_faultSort_25, .int n_h0_faultPlace_26])), (a_tb, .inl (ca_tb, 700, .inl fa_tb)), (a_dr, .inr (7, [.ref a_d1, .ref a_d2, .ref a_d3, .int rl, .int rc, .int rk])), (a_d1, .inl (ca_d1, 96, .inl fa_d1)), (a_d2, .inl (ca_d2, 96, .inl fa_d2)), (a_d3, .inl (ca_d3, 7, .inl fa_d3))]) hP hD [0, 1, 7, 2, 3, 4, 5, 6] (by decide) rfl
    have hK9 := hK.sub (tys' := []) [] rfl
    refine W.widen (k := 0) (n := 0) (Nat.le_of_ble_eq_true rfl) (Nat.le_of_ble_eq_true rfl) ?_
    exact W.zret (v := 0) hx hb hr (by rfl) (fun t ht hW => ⟨⟨0, (), rfl, (show ((0 : Int) ≤ (0 : Int) ∧ (0 : Int) ≤ (1 : Int)) by decide), ⟨uw, 0, n_h0_faultSort_25, n_h0_faultPlace_26, rl, fa_d1, fa_d2, hB_uw, (by decide), hB_rl, by rw [ht]; exact hP9, va_K.moved hW.alike hK9, hD9⟩⟩, hS.F ht⟩) hS.2.2 dX8_takeClose_15
def u_s_X8_takeJoin : List Cond := .code yX8_takeJoin cX8_takeJoin 3 (some .boolean) :: ([.fieldLink RX8 42 "ShellHeap$RulesReader" "tape" "LShellHeap$Tape;", .fieldLink RX8 80 "ShellHeap$Tape" "sign" "I", .methodLink RX8 157 yX8_joinInHand, .instanceMethod yX8_joinInHand, .selects RX8 yX8_joinInHand yX8_joinInHand, .initialized RX8, .methodLink RX8 103 yX8_tightness, .static yX8_tightness, .methodLink RX8 107 yX8_settle, .instanceMethod yX8_settle, .selects RX8 yX8_settle yX8_settle, .methodLink RX8 133 yX8_tieKnot, .instanceMethod yX8_tieKnot, .selects RX8 yX8_tieKnot yX8_tieKnot, .methodLink RX8 139 yX8_await, .instanceMethod yX8_await, .selects RX8 yX8_await yX8_await, .fieldLink RX8 30 "ShellHeap$RulesReader" "wantsPart" "Z", .methodLink RX8 150 yX8_lastWaiting, .instanceMethod yX8_lastWaiting, .selects RX8 yX8_lastWaiting yX8_lastWaiting, .methodLink RX8 67 yX10_fail, .instanceMethod yX10_fail, .selects RX10 yX10_fail yX10_fail, .initialized RX10, .methodLink RX8 154 yX8_takeClose, .instanceMethod yX8_takeClose, .selects RX8 yX8_takeClose yX8_takeClose] ++ (wsX80 ++ (wsX100 ++ (u_s_X8_joinInHand ++ (u_s_X8_tightness ++ (u_s_X8_settle ++ (u_s_X8_tieKnot ++ (u_s_X8_await ++ (u_s_X8_lastWaiting ++ (u_s_X10_fail ++ (u_s_X8_takeClose ++ [])))))))))))
theorem gd_s_X8_takeJoin : z_gd u_s_X8_takeJoin := z_gdc (by decide +kernel) (z_gda gdX8 (z_gda gdX10 (z_gda gd_s_X8_joinInHand (z_gda gd_s_X8_tightness (z_gda gd_s_X8_settle (z_gda gd_s_X8_tieKnot (z_gda gd_s_X8_await (z_gda gd_s_X8_lastWaiting (z_gda gd_s_X10_fail (z_gda gd_s_X8_takeClose (z_gd0)))))))))))
set_option maxRecDepth 20000 in
theorem gw_s_X8_takeJoin_s_X8_joinInHand_157 : GoodIn u_s_X8_takeJoin (wsV RX8 157 RX8 yX8_joinInHand u_s_X8_joinInHand) := z_gV (z_gr _ [3, 4, 5, 6] rfl (by decide +kernel)) (fun w h => ⟨z_mc (z_mr (z_mr (z_mr (z_ml h)))), gd_s_X8_joinInHand w h⟩)
set_option maxRecDepth 20000 in
theorem gw_s_X8_takeJoin_s_X8_tightness_103 : GoodIn u_s_X8_takeJoin (va_wsS RX8 103 yX8_tightness u_s_X8_tightness) := z_gS (z_gr _ [7, 8, 6] rfl (by decide +kernel)) (fun w h => ⟨z_mc (z_mr (z_mr (z_mr (z_mr (z_ml h))))), gd_s_X8_tightness w h⟩)
set_option maxRecDepth 20000 in
theorem gw_s_X8_takeJoin_s_X8_settle_107 : GoodIn u_s_X8_takeJoin (wsV RX8 107 RX8 yX8_settle u_s_X8_settle) := z_gV (z_gr _ [9, 10, 11, 6] rfl (by decide +kernel)) (fun w h => ⟨z_mc (z_mr (z_mr (z_mr (z_mr (z_mr (z_ml h)))))), gd_s_X8_settle w h⟩)
set_option maxRecDepth 20000 in
theorem gw_s_X8_takeJoin_s_X8_tieKnot_133 : GoodIn u_s_X8_takeJoin (wsV RX8 133 RX8 yX8_tieKnot u_s_X8_tieKnot) := z_gV (z_gr _ [12, 13, 14, 6] rfl (by decide +kernel)) (fun w h => ⟨z_mc (z_mr (z_mr (z_mr (z_mr (z_mr (z_mr (z_ml h))))))), gd_s_X8_tieKnot w h⟩)
set_option maxRecDepth 20000 in
theorem gw_s_X8_takeJoin_s_X8_await_139 : GoodIn u_s_X8_takeJoin (wsV RX8 139 RX8 yX8_await u_s_X8_await) := z_gV (z_gr _ [15, 16, 17, 6] rfl (by decide +kernel)) (fun w h => ⟨z_mc (z_mr (z_mr (z_mr (z_mr (z_mr (z_mr (z_mr (z_ml h)))))))), gd_s_X8_await w h⟩)
set_option maxRecDepth 20000 in
theorem gw_s_X8_takeJoin_s_X8_lastWaiting_150 : GoodIn u_s_X8_takeJoin (wsV RX8 150 RX8 yX8_lastWaiting u_s_X8_lastWaiting) := z_gV (z_gr _ [19, 20, 21, 6] rfl (by decide +kernel)) (fun w h => ⟨z_mc (z_mr (z_mr (z_mr (z_mr (z_mr (z_mr (z_mr (z_mr (z_ml h))))))))), gd_s_X8_lastWaiting w h⟩)
set_option maxRecDepth 20000 in
theorem gw_s_X8_takeJoin_s_X10_fail_67 : GoodIn u_s_X8_takeJoin (wsV RX8 67 RX10 yX10_fail u_s_X10_fail) := z_gV (z_gr _ [22, 23, 24, 25] rfl (by decide +kernel)) (fun w h => ⟨z_mc (z_mr (z_mr (z_mr (z_mr (z_mr (z_mr (z_mr (z_mr (z_mr (z_ml h)))))))))), gd_s_X10_fail w h⟩)
set_option maxRecDepth 20000 in
theorem gw_s_X8_takeJoin_s_X8_takeClose_154 : GoodIn u_s_X8_takeJoin (wsV RX8 154 RX8 yX8_takeClose u_s_X8_takeClose) := z_gV (z_gr _ [26, 27, 28, 6] rfl (by decide +kernel)) (fun w h => ⟨z_mc (z_mr (z_mr (z_mr (z_mr (z_mr (z_mr (z_mr (z_mr (z_mr (z_mr (z_ml h))))))))))), gd_s_X8_takeClose w h⟩)
set_option maxHeartbeats 4000000 in
set_option maxRecDepth 100000 in
theorem s_X8_takeJoin (l : Launch) (dC : Nat → ClassId) (dI : Nat → Nat → Nat) (sz : Nat) (sd : Nat → Nat) (sv : Nat → Nat) (sf : Value) (h0 : Nat) (a_tp : Nat) (a_t1 : Nat) (a_t2 : Nat) (a_w1 : Nat) (uw : Int32) (uo : Int32) (up : Int32) (a_dr : Nat) (h0_8 : Value) (ca_w1 : ClassId) (fa_w1 : Nat → Int32) (a_tb : Nat) (tt : Int32) (ta : Int32) (tj : Int32) (tf : Int32) (ts : Int32) (te : Int32) (to : Int32) (tg : Int32) (tx : Int32) (ty : Int32) (ca_tb : ClassId) (fa_tb : Nat → Int32) (a_d1 : Nat) (a_d2 : Nat) (a_d3 : Nat) (rl : Int32) (rc : Int32) (rk : Int32) (ca_d1 : ClassId) (fa_d1 : Nat → Int32) (ca_d2 : ClassId) (fa_d2 : Nat → Int32) (ca_d3 : ClassId) (fa_d3 : Nat → Int32) (hB_tt : ((0 : Int) ≤ (tt).toInt ∧ (tt).toInt ≤ (700 : Int))) (hB_ta : ((0 : Int) ≤ (ta).toInt ∧ (ta).toInt ≤ (700 : Int))) (hB_tf : ((0 : Int) ≤ (tf).toInt ∧ (tf).toInt ≤ (700 : Int))) (hB_ts : ((0 : Int) ≤ (ts).toInt ∧ (ts).toInt ≤ (700 : Int))) (hB_te : ((0 : Int) ≤ (te).toInt ∧ (te).toInt ≤ (700 : Int))) (hB_uw : ((0 : Int) ≤ (uw).toInt ∧ (uw).toInt ≤ (104 : Int))) (hB_uo : ((0 : Int) ≤ (uo).toInt ∧ (uo).toInt ≤ (8 : Int))) (hB_up : ((0 : Int) ≤ (up).toInt ∧ (up).toInt ≤ (1 : Int))) (hB_rl : ((0 : Int) ≤ (rl).toInt ∧ (rl).toInt ≤ (96 : Int))) (hB_rc : ((0 : Int) ≤ (rc).toInt ∧ (rc).toInt ≤ (6 : Int))) (hB_rk : ((0 : Int) ≤ (rk).toInt ∧ (rk).toInt ≤ (96 : Int))) (hI_a_tb : ∀ j : Nat, ((0 : Int) ≤ (fa_tb j).toInt ∧ (fa_tb j).toInt ≤ (255 : Int))) (hI_a_d3 : ∀ j : Nat, ((0 : Int) ≤ (fa_d3 j).toInt ∧ (fa_d3 j).toInt ≤ (96 : Int))) : Met l yX8_takeJoin u_s_X8_takeJoin ({ frames := 6, cells := 0, slots := 0, locals := 132 }) (va_Pc [.ref h0] (z_CS (dC, dI) vwCl [(h0, .inr (8, [.ref a_tp, .ref a_t1, .ref a_t2, .ref a_w1, .int uw, .int uo, .int up, .ref a_dr, h0_8])), (a_w1, .inl (ca_w1, 104, .inl fa_w1)), (a_tp, .inr (10, [.ref a_tb, .int tt, .int ta, .int tj, .int tf, .int ts, .int te, .int to, .int tg, .int tx, .int ty])), (a_tb, .inl (ca_tb, 700, .inl fa_tb)), (a_dr, .inr (7, [.ref a_d1, .ref a_d2, .ref a_d3, .int rl, .int rc, .int rk])), (a_d1, .inl (ca_d1, 96, .inl fa_d1)), (a_d2, .inl (ca_d2, 96, .inl fa_d2)), (a_d3, .inl (ca_d3, 7, .inl fa_d3))] [(ca_w1, .int), (ca_tb, .int), (ca_d1, .int), (ca_d2, .int), (ca_d3, .int)] sz sd sv sf [(h0, .inr (8, [.ref a_tp, .ref a_t1, .ref a_t2, .ref a_w1, .int uw, .int uo, .int up, .ref a_dr, h0_8])), (a_w1, .inl (ca_w1, 104, .inl fa_w1)), (a_tp, .inr (10, [.ref a_tb, .int tt, .int ta, .int tj, .int tf, .int ts, .int te, .int to, .int tg, .int tx, .int ty])), (a_tb, .inl (ca_tb, 700, .inl fa_tb)), (a_dr, .inr (7, [.ref a_d1, .ref a_d2, .ref a_d3, .int rl, .int rc, .int rk])), (a_d1, .inl (ca_d1, 96, .inl fa_d1)), (a_d2, .inl (ca_d2, 96, .inl fa_d2)), (a_d3, .inl (ca_d3, 7, .inl fa_d3))])) (va_Qi (fun (r : Int32) (_ : Unit) => ((0 : Int) ≤ (r).toInt ∧ (r).toInt ≤ (1 : Int))) (fun (_ : Unit) (t : State) => ∃ (n_h0_waits : Int32), ∃ (n_h0_open : Int32), ∃ (n_h0_wantsPart : Int32), ∃ (g_a_w1 : Nat → Int32), ∃ (n_a_tp_faultSort : Int32), ∃ (n_a_tp_faultPlace : Int32), ∃ (n_a_dr_length : Int32), ∃ (n_a_dr_knots : Int32), ∃ (g_a_d1 : Nat → Int32), ∃ (g_a_d2 : Nat → Int32), ((0 : Int) ≤ (n_h0_waits).toInt ∧ (n_h0_waits).toInt ≤ (104 : Int)) ∧ ((0 : Int) ≤ (n_h0_open).toInt ∧ (n_h0_open).toInt ≤ (8 : Int)) ∧ ((0 : Int) ≤ (n_h0_wantsPart).toInt ∧ (n_h0_wantsPart).toInt ≤ (1 : Int)) ∧ ((0 : Int) ≤ (n_a_dr_length).toInt ∧ (n_a_dr_length).toInt ≤ (96 : Int)) ∧ ((0 : Int) ≤ (n_a_dr_knots).toInt ∧ (n_a_dr_knots).toInt ≤ (96 : Int)) ∧ va_P (dC, dI) vwCl [(h0, .inr (8, [.ref a_tp, .ref a_t1, .ref a_t2, .ref a_w1, .int n_h0_waits, .int n_h0_open, .int n_h0_wantsPart, .ref a_dr, h0_8])), (a_w1, .inl (ca_w1, 104, .inl g_a_w1)), (a_tp, .inr (10, [.ref a_tb, .int tt, .int ta, .int tj, .int tf, .int ts, .int te, .int to, .int tg, .int n_a_tp_faultSort, .int n_a_tp_faultPlace])), (a_tb, .inl (ca_tb, 700, .inl fa_tb)), (a_dr, .inr (7, [.ref a_d1, .ref a_d2, .ref a_d3, .int n_a_dr_length, .int rc, .int n_a_dr_knots])), (a_d1, .inl (ca_d1, 96, .inl g_a_d1)), (a_d2, .inl (ca_d2, 96, .inl g_a_d2)), (a_d3, .inl (ca_d3, 7, .inl fa_d3))] t.heap ∧ va_K (dC, dI) vwCl [] t ∧ va_D (va_A [(h0, .inr (8, [.ref a_tp, .ref a_t1, .ref a_t2, .ref a_w1, .int uw, .int uo, .int up, .ref a_dr, h0_8])), (a_w1, .inl (ca_w1, 104, .inl fa_w1)), (a_tp, .inr (10, [.ref a_tb, .int tt, .int ta, .int tj, .int tf, .int ts, .int te, .int to, .int tg, .int tx, .int ty])), (a_tb, .inl (ca_tb, 700, .inl fa_tb)), (a_dr, .inr (7, [.ref a_d1, .ref a_d2, .ref a_d3, .int rl, .int rc, .int rk])), (a_d1, .inl (ca_d1, 96, .inl fa_d1)), (a_d2, .inl (ca_d2, 96, .inl fa_d2)), (a_d3, .inl (ca_d3, 7, .inl fa_d3))] sz) [(h0, .inr (8, [.ref a_tp, .ref a_t1, .ref a_t2, .ref a_w1, .int n_h0_waits, .int n_h0_open, .int n_h0_wantsPart, .ref a_dr, h0_8])), (a_w1, .inl (ca_w1, 104, .inl g_a_w1)), (a_tp, .inr (10, [.ref a_tb, .int tt, .int ta, .int tj, .int tf, .int ts, .int te, .int to, .int tg, .int n_a_tp_faultSort, .int n_a_tp_faultPlace])), (a_tb, .inl (ca_tb, 700, .inl fa_tb)), (a_dr, .inr (7, [.ref a_d1, .ref a_d2, .ref a_d3, .int n_a_dr_length, .int rc, .int n_a_dr_knots])), (a_d1, .inl (ca_d1, 96, .inl g_a_d1)), (a_d2, .inl (ca_d2, 96, .inl g_a_d2)), (a_d3, .inl (ca_d3, 7, .inl fa_d3))]) (va_A [(h0, .inr (8, [.ref a_tp, .ref a_t1, .ref a_t2, .ref a_w1, .int uw, .int uo, .int up, .ref a_dr, h0_8])), (a_w1, .inl (ca_w1, 104, .inl fa_w1)), (a_tp, .inr (10, [.ref a_tb, .int tt, .int ta, .int tj, .int tf, .int ts, .int te, .int to, .int tg, .int tx, .int ty])), (a_tb, .inl (ca_tb, 700, .inl fa_tb)), (a_dr, .inr (7, [.ref a_d1, .ref a_d2, .ref a_d3, .int rl, .int rc, .int rk])), (a_d1, .inl (ca_d1, 96, .inl fa_d1)), (a_d2, .inl (ca_d2, 96, .inl fa_d2)), (a_d3, .inl (ca_d3, 7, .inl fa_d3))] sz)) 0 0 (va_A [(h0, .inr (8, [.ref a_tp, .ref a_t1, .ref a_t2, .ref a_w1, .int uw, .int uo, .int up, .ref a_dr, h0_8])), (a_w1, .inl (ca_w1, 104, .inl fa_w1)), (a_tp, .inr (10, [.ref a_tb, .int tt, .int ta, .int tj, .int tf, .int ts, .int te, .int to, .int tg, .int tx, .int ty])), (a_tb, .inl (ca_tb, 700, .inl fa_tb)), (a_dr, .inr (7, [.ref a_d1, .ref a_d2, .ref a_d3, .int rl, .int rc, .int rk])), (a_d1, .inl (ca_d1, 96, .inl fa_d1)), (a_d2, .inl (ca_d2, 96, .inl fa_d2)), (a_d3, .inl (ca_d3, 7, .inl fa_d3))] sz) := by
  refine Met.ofW (cc := cX8_takeJoin) (maxL := 3) (ret := (some .boolean)) (by decide) rfl ?_
  intro p e s m args below meth c s₁ B hml hv
  obtain ⟨rfl, ⟨hsz, hP, hK, hD0⟩, hST⟩ := hv
  have hx := B.exec
  have hb := B.bytes
  have hr := B.returns
  have hts := atoms_spec (ws := u_s_X8_takeJoin) B.pre
  have hown : s.vm.findClass RX8 = some m.cls := findClass_of_methodNamed B.named
  have hlocks := B.notSynchronized
  subst hsz
  have hD := hD0.self (sz := s.heap.size)
  generalize hAe : va_A [(h0, .inr (8, [.ref a_tp, .ref a_t1, .ref a_t2, .ref a_w1, .int uw, .int uo, .int up, .ref a_dr, h0_8])), (a_w1, .inl (ca_w1, 104, .inl fa_w1)), (a_tp, .inr (10, [.ref a_tb, .int tt, .int ta, .int tj, .int tf, .int ts, .int te, .int to, .int tg, .int tx, .int ty])), (a_tb, .inl (ca_tb, 700, .inl fa_tb)), (a_dr, .inr (7, [.ref a_d1, .ref a_d2, .ref a_d3, .int rl, .int rc, .int rk])), (a_d1, .inl (ca_d1, 96, .inl fa_d1)), (a_d2, .inl (ca_d2, 96, .inl fa_d2)), (a_d3, .inl (ca_d3, 7, .inl fa_d3))] s.heap.size = A at hD hST ⊢
  have hA : ∀ q : Nat, s.heap.size ≤ q → A q := fun q h => by rw [← hAe]; exact Or.inr h
  have hS : va_S A s.heap s.heap [] := va_S.rf
  have hP : va_P (dC, dI) vwCl [(h0, .inr (8, [.ref a_tp, .ref a_t1, .ref a_t2, .ref a_w1, .int uw, .int uo, .int up, .ref a_dr, h0_8])), (a_w1, .inl (ca_w1, 104, .inl fa_w1)), (a_tp, .inr (10, [.ref a_tb, .int tt, .int ta, .int tj, .int tf, .int ts, .int te, .int to, .int tg, .int tx, .int ty])), (a_tb, .inl (ca_tb, 700, .inl fa_tb)), (a_dr, .inr (7, [.ref a_d1, .ref a_d2, .ref a_d3, .int rl, .int rc, .int rk])), (a_d1, .inl (ca_d1, 96, .inl fa_d1)), (a_d2, .inl (ca_d2, 96, .inl fa_d2)), (a_d3, .inl (ca_d3, 7, .inl fa_d3))] s.heap := hP
  have w__fieldLink_RX8_42_ShellHeap_RulesReader_tape_LShellHeap_Tape_ := hts (.fieldLink RX8 42 "ShellHeap$RulesReader" "tape" "LShellHeap$Tape;") (z_mc (z_ml z_m0))
  have hiX8 := show ∀ w ∈ u_ws RX8 TX8 9, w ∈ u_s_X8_takeJoin from fun w h => z_mc (z_mr (z_ml h))
  have w__fieldLink_RX8_80_ShellHeap_Tape_sign_I_ := hts (.fieldLink RX8 80 "ShellHeap$Tape" "sign" "I") (z_mc (z_ml z_m1))
  have hiX10 := show ∀ w ∈ u_ws RX10 TX10 11, w ∈ u_s_X8_takeJoin from fun w h => z_mc (z_mr (z_mr (z_ml h)))
  have w__fieldLink_RX8_30_ShellHeap_RulesReader_wantsPart_Z_ := hts (.fieldLink RX8 30 "ShellHeap$RulesReader" "wantsPart" "Z") (z_mc (z_ml z_m17))
  have hl := lv_entry ([.ref h0]) (n := 3) (Nat.le_of_ble_eq_true rfl)
  rw [lg_entry_eq]
  generalize (lg_sl ([.ref h0]) ++ List.replicate (3 - (lg_sl ([.ref h0])).length) Slot.unset).toArray = ls at hl ⊢
  have hl : lv_has ls 3 [(0, .ref h0)] := hl
  refine lv_aload_n hx hb dX8_takeJoin_0 rfl (lv_at hl 0 rfl) ?_
  refine va_get (D := (dC, dI)) (ci := 8) (v := .ref a_tp) (C := RX8) (T := TX8) (N := 9) hx hb hts hiX8 hown hK hP 0 rfl rfl 0 (by decide) w__fieldLink_RX8_42_ShellHeap_RulesReader_tape_LShellHeap_Tape_ (fun _ h9 => h9) rfl dX8_takeJoin_1 ?_
  refine va_get (D := (dC, dI)) (ci := 10) (v := .int tg) (C := RX10) (T := TX10) (N := 11) hx hb hts hiX10 hown hK hP 2 rfl rfl 8 (by decide) w__fieldLink_RX8_80_ShellHeap_Tape_sign_I_ (fun _ h9 => h9) rfl dX8_takeJoin_4 ?_
  refine lv_bipush (v := 41) hx hb dX8_takeJoin_7 (by decide) ?_
  refine lv_icmp_ne (tgt := 17) hx hb dX8_takeJoin_9 (by decide) (fun c_1 => ?_) (fun c_1 => ?_)
  · have k_2 : (tg).toInt ≠ (41 : Int) := z_ne c_1
    refine lv_aload_n hx hb dX8_takeJoin_17 rfl (lv_at hl 0 rfl) ?_
    obtain ⟨hPc, hDc⟩ := z_sub2 (ws' := [(h0, .inr (8, [.ref a_tp, .ref a_t1, .ref a_t2, .ref a_w1, .int uw, .int uo, .int up, .ref a_dr, h0_8])), (a_tp, .inr (10, [.ref a_tb, .int tt, .int ta, .int tj, .int tf, .int ts, .int te, .int to, .int tg, .int tx, .int ty])), (a_tb, .inl (ca_tb, 700, .inl fa_tb))]) hP hD [0, 2, 3] (by decide) rfl
    have hKc := hK.sub (tys' := [(ca_tb, .int)]) [1] rfl
    have hFc := va_free (ws := []) (wc := []) (z_D0 _) hS hA [] rfl
    refine va_calli (va_runV (As := []) (rest := []) ⟨hx, hb, hml, hown, hts⟩ (s_X8_joinInHand l dC dI s.heap.size sd sv sf h0 a_tp a_t1 a_t2 a_w1 uw uo up a_dr h0_8 a_tb tt ta tj tf ts te to tg tx ty ca_tb fa_tb hB_tt hB_ta hB_tf hB_ts hB_te hI_a_tb) (cwV 0 hts gw_s_X8_takeJoin_s_X8_joinInHand_157 rfl rfl rfl (by decide +kernel) ⟨Nat.le_of_ble_eq_true rfl, Nat.le_of_ble_eq_true rfl⟩) ⟨z_blindS, va_recv hKc hPc (ci := 8) (q0 := 0) rfl rfl, z_preS hPc hKc hDc ((hST.kept hS.2.1).narrow hFc)⟩ rfl rfl hl.1 rfl (lv_room (Nat.le_of_ble_eq_true rfl)) dX8_takeJoin_18 ⟨Nat.le_of_ble_eq_true rfl, Nat.le_of_ble_eq_true rfl⟩) hS (fun q _ h => hFc q h) hFc (fun r_4 u t H_3 locs ht hvm hw_5 hB hz1 hk1 hS => ?_)
    replace hP := z_pure hP hk1
    clear hPc hDc hKc
    refine lv_istore_n (lv' := [(1, .int r_4), (0, .ref h0)]) hx hb dX8_takeJoin_21 rfl hl (by decide) rfl (fun ls hl => ?_)
    refine lv_iload_n hx hb dX8_takeJoin_22 rfl (lv_at hl 0 rfl) ?_
    refine lv_iconst (v := (-1)) hx hb dX8_takeJoin_23 (by decide) ?_
    refine lv_icmp_ne (tgt := 36) hx hb dX8_takeJoin_24 (by decide) (fun c_6 => ?_) (fun c_6 => ?_)
    · have k_7 : (r_4).toInt ≠ (-1 : Int) := z_ne c_6
      refine lv_aload_n hx hb dX8_takeJoin_36 rfl (lv_at hl 1 rfl) ?_
      refine lv_iload_n hx hb dX8_takeJoin_37 rfl (lv_at hl 0 rfl) ?_
      obtain ⟨hPc, hDc⟩ := z_sub2 (ws' := []) hP hD [] (by decide) rfl
      have hKc := hK.sub (tys' := []) [] rfl
      have hFc := va_free (ws := []) (wc := []) (z_D0 _) hS hA [] rfl
      refine va_calli (va_runS (As := [.int r_4]) (rest := [.ref h0]) ⟨hx, hb, hml, hown, hts⟩ (s_X8_tightness l dC dI H_3.size r_4) (va_cwS 1 hts gw_s_X8_takeJoin_s_X8_tightness_103 rfl rfl rfl (by decide +kernel) ⟨Nat.le_of_ble_eq_true rfl, Nat.le_of_ble_eq_true rfl⟩) ⟨z_blind, z_pre hPc hKc hDc⟩ rfl rfl hl.1 rfl (lv_room (Nat.le_of_ble_eq_true rfl)) dX8_takeJoin_38 ⟨Nat.le_of_ble_eq_true rfl, Nat.le_of_ble_eq_true rfl⟩) hS (fun q _ h => hFc q h) hFc (fun r_9 u t H_8 locs ht hvm hw_10 hB hz1 hk1 hS => ?_)
      replace hP := z_pure hP hk1
      clear hPc hDc hKc
      refine lv_iconst (v := 1) hx hb dX8_takeJoin_41 (by decide) ?_
      refine lv_iadd hx hb dX8_takeJoin_42 ?_
      refine lv_topi (fun z_11 ez_11 => ?_)
      obtain ⟨hPc, hDc, hFc⟩ := z_sub3 (ws' := [(h0, .inr (8, [.ref a_tp, .ref a_t1, .ref a_t2, .ref a_w1, .int uw, .int uo, .int up, .ref a_dr, h0_8])), (a_w1, .inl (ca_w1, 104, .inl fa_w1)), (a_dr, .inr (7, [.ref a_d1, .ref a_d2, .ref a_d3, .int rl, .int rc, .int rk])), (a_d1, .inl (ca_d1, 96, .inl fa_d1)), (a_d2, .inl (ca_d2, 96, .inl fa_d2)), (a_d3, .inl (ca_d3, 7, .inl fa_d3))]) hP hD hS hA [0, 1, 4, 5, 6, 7] (by decide) rfl
      have hKc := hK.sub (tys' := [(ca_w1, .int), (ca_d1, .int), (ca_d2, .int), (ca_d3, .int)]) [0, 2, 3, 4] rfl
      refine va_callv (va_runV (As := [.int z_11]) (rest := []) ⟨hx, hb, hml, hown, hts⟩ (s_X8_settle l dC dI H_8.size h0 z_11 a_tp a_t1 a_t2 a_w1 uw uo up a_dr h0_8 ca_w1 fa_w1 a_d1 a_d2 a_d3 rl rc rk ca_d1 fa_d1 ca_d2 fa_d2 ca_d3 fa_d3 hB_uw hB_uo hB_up hB_rl hB_rc hB_rk hI_a_d3) (cwV 1 hts gw_s_X8_takeJoin_s_X8_settle_107 rfl rfl rfl (by decide +kernel) ⟨Nat.le_of_ble_eq_true rfl, Nat.le_of_ble_eq_true rfl⟩) ⟨z_blind, va_recv hKc hPc (ci := 8) (q0 := 0) rfl rfl, z_pre hPc hKc hDc⟩ rfl rfl hl.1 rfl (lv_room (Nat.le_of_ble_eq_true rfl)) dX8_takeJoin_43 ⟨Nat.le_of_ble_eq_true rfl, Nat.le_of_ble_eq_true rfl⟩) hS (fun q _ h => hFc q h) hFc (fun u t H_12 locs ht hvm hw_14 hB hz1 hk1 hS => ?_)
      obtain ⟨n_h0_waits_15, n_a_dr_length_16, g_a_d1_17, g_a_d2_18, hp_19, hp_20, hP1, hK1, hD1⟩ := hB
      rw [ht] at hP1
      have hK1 := va_K.moved hvm.symm hK1
      obtain ⟨hP, hD⟩ := z_ap_2 (va_join (wr := [(a_tp, .inr (10, [.ref a_tb, .int tt, .int ta, .int tj, .int tf, .int ts, .int te, .int to, .int tg, .int tx, .int ty])), (a_tb, .inl (ca_tb, 700, .inl fa_tb))]) hP hD [0, 1, 4, 5, 6, 7] [2, 3] rfl rfl (by decide) (by decide) hk1 hFc hP1 hD1)
      clear hPc hDc hKc
      refine lv_iload_n hx hb dX8_takeJoin_46 rfl (lv_at hl 0 rfl) ?_
      obtain ⟨hPc, hDc⟩ := z_sub2 (ws' := []) hP hD [] (by decide) rfl
      have hKc := hK.sub (tys' := []) [] rfl
      have hFc := va_free (ws := []) (wc := []) (z_D0 _) hS hA [] rfl
      refine va_calli (va_runS (As := [.int r_4]) (rest := []) ⟨hx, hb, hml, hown, hts⟩ (s_X8_tightness l dC dI H_12.size r_4) (va_cwS 1 hts gw_s_X8_takeJoin_s_X8_tightness_103 rfl rfl rfl (by decide +kernel) ⟨Nat.le_of_ble_eq_true rfl, Nat.le_of_ble_eq_true rfl⟩) ⟨z_blind, z_pre hPc hKc hDc⟩ rfl rfl hl.1 rfl (lv_room (Nat.le_of_ble_eq_true rfl)) dX8_takeJoin_47 ⟨Nat.le_of_ble_eq_true rfl, Nat.le_of_ble_eq_true rfl⟩) hS (fun q _ h => hFc q h) hFc (fun r_22 u t H_21 locs ht hvm hw_23 hB hz1 hk1 hS => ?_)
      replace hP := z_pure hP hk1
      clear hPc hDc hKc
      refine lv_bipush (v := 40) hx hb dX8_takeJoin_50 (by decide) ?_
      obtain ⟨hPc, hDc⟩ := z_sub2 (ws' := []) hP hD [] (by decide) rfl
      have hKc := hK.sub (tys' := []) [] rfl
      have hFc := va_free (ws := []) (wc := []) (z_D0 _) hS hA [] rfl
      refine va_calli (va_runS (As := [.int 40]) (rest := [.int r_22]) ⟨hx, hb, hml, hown, hts⟩ (s_X8_tightness l dC dI H_21.size 40) (va_cwS 1 hts gw_s_X8_takeJoin_s_X8_tightness_103 rfl rfl rfl (by decide +kernel) ⟨Nat.le_of_ble_eq_true rfl, Nat.le_of_ble_eq_true rfl⟩) ⟨z_blind, z_pre hPc hKc hDc⟩ rfl rfl hl.1 rfl (lv_room (Nat.le_of_ble_eq_true rfl)) dX8_takeJoin_52 ⟨Nat.le_of_ble_eq_true rfl, Nat.le_of_ble_eq_true rfl⟩) hS (fun q _ h => hFc q h) hFc (fun r_25 u t H_24 locs ht hvm hw_26 hB hz1 hk1 hS => ?_)
      replace hP := z_pure hP hk1
      clear hPc hDc hKc
      refine lv_icmp_ne (tgt := 62) hx hb dX8_takeJoin_55 (by decide) (fun c_27 => ?_) (fun c_27 => ?_)
      · have k_28 : (r_22).toInt ≠ (r_25).toInt := z_ne c_27
        refine lv_iconst (v := 0) hx hb dX8_takeJoin_62 (by decide) ?_
        refine lv_istore_n (lv' := [(2, .int 0), (1, .int r_4), (0, .ref h0)]) hx hb dX8_takeJoin_63 rfl hl (by decide) rfl (fun ls hl => ?_)
        refine lv_iload_n hx hb dX8_takeJoin_64 rfl (lv_at hl 0 rfl) ?_
        refine lv_if_eq (tgt := 91) hx hb dX8_takeJoin_65 (by decide) (fun _ => ?_) (fun c_29 => absurd (by decide) c_29)
        refine lv_aload_n hx hb dX8_takeJoin_91 rfl (lv_at hl 2 rfl) ?_
        obtain ⟨hPc, hDc, hFc⟩ := z_sub3 (ws' := [(h0, .inr (8, [.ref a_tp, .ref a_t1, .ref a_t2, .ref a_w1, .int n_h0_waits_15, .int uo, .int up, .ref a_dr, h0_8])), (a_tp, .inr (10, [.ref a_tb, .int tt, .int ta, .int tj, .int tf, .int ts, .int te, .int to, .int tg, .int tx, .int ty])), (a_tb, .inl (ca_tb, 700, .inl fa_tb)), (a_dr, .inr (7, [.ref a_d1, .ref a_d2, .ref a_d3, .int n_a_dr_length_16, .int rc, .int rk]))]) hP hD hS hA [2, 0, 1, 4] (by decide) rfl
        have hKc := hK.sub (tys' := [(ca_tb, .int)]) [1] rfl
        refine va_calli (va_runV (As := []) (rest := []) ⟨hx, hb, hml, hown, hts⟩ (s_X8_tieKnot l dC dI H_24.size h0 a_tp a_t1 a_t2 a_w1 n_h0_waits_15 uo up a_dr h0_8 a_tb tt ta tj tf ts te to tg tx ty ca_tb fa_tb a_d1 a_d2 a_d3 n_a_dr_length_16 rc rk hB_tt hB_ta hB_tf hB_ts hB_te hp_19 hB_uo hB_up hp_20 hB_rc hB_rk hI_a_tb) (cwV 0 hts gw_s_X8_takeJoin_s_X8_tieKnot_133 rfl rfl rfl (by decide +kernel) ⟨Nat.le_of_ble_eq_true rfl, Nat.le_of_ble_eq_true rfl⟩) ⟨z_blind, va_recv hKc hPc (ci := 8) (q0 := 0) rfl rfl, z_pre hPc hKc hDc⟩ rfl rfl hl.1 rfl (lv_room (Nat.le_of_ble_eq_true rfl)) dX8_takeJoin_92 ⟨Nat.le_of_ble_eq_true rfl, Nat.le_of_ble_eq_true rfl⟩) hS (fun q _ h => hFc q h) hFc (fun r_31 u t H_30 locs ht hvm hw_32 hB hz1 hk1 hS => ?_)
        obtain ⟨n_a_tp_faultSort_33, n_a_tp_faultPlace_34, n_a_dr_knots_35, hp_36, hP1, hK1, hD1⟩ := hB
        rw [ht] at hP1
        have hK1 := va_K.moved hvm.symm hK1
        obtain ⟨hP, hD⟩ := z_ap_4 (va_join (wr := [(a_w1, .inl (ca_w1, 104, .inl fa_w1)), (a_d1, .inl (ca_d1, 96, .inl g_a_d1_17)), (a_d2, .inl (ca_d2, 96, .inl g_a_d2_18)), (a_d3, .inl (ca_d3, 7, .inl fa_d3))]) hP hD [2, 0, 1, 4] [3, 5, 6, 7] rfl rfl (by decide) (by decide) hk1 hFc hP1 hD1)
        clear hPc hDc hKc
        refine lv_if_ne (tgt := 100) hx hb dX8_takeJoin_95 (by decide) (fun c_37 => ?_) (fun c_37 => ?_)
        · have k_38 : (r_31).toInt ≠ (0 : Int) := z_ne c_37
          obtain rfl : r_31 = 1 := z_eq' (show (r_31).toInt = (1 : Int) by omega)
          refine lv_aload_n hx hb dX8_takeJoin_100 rfl (lv_at hl 2 rfl) ?_
          refine lv_iload_n hx hb dX8_takeJoin_101 rfl (lv_at hl 1 rfl) ?_
          obtain ⟨hPc, hDc⟩ := z_sub2 (ws' := []) hP hD [] (by decide) rfl
          have hKc := hK.sub (tys' := []) [] rfl
          have hFc := va_free (ws := []) (wc := []) (z_D0 _) hS hA [] rfl
          refine va_calli (va_runS (As := [.int r_4]) (rest := [.ref h0]) ⟨hx, hb, hml, hown, hts⟩ (s_X8_tightness l dC dI H_30.size r_4) (va_cwS 1 hts gw_s_X8_takeJoin_s_X8_tightness_103 rfl rfl rfl (by decide +kernel) ⟨Nat.le_of_ble_eq_true rfl, Nat.le_of_ble_eq_true rfl⟩) ⟨z_blind, z_pre hPc hKc hDc⟩ rfl rfl hl.1 rfl (lv_room (Nat.le_of_ble_eq_true rfl)) dX8_takeJoin_102 ⟨Nat.le_of_ble_eq_true rfl, Nat.le_of_ble_eq_true rfl⟩) hS (fun q _ h => hFc q h) hFc (fun r_41 u t H_40 locs ht hvm hw_42 hB hz1 hk1 hS => ?_)
          replace hP := z_pure hP hk1
          clear hPc hDc hKc
          obtain ⟨hPc, hDc, hFc⟩ := z_sub3 (ws' := [(h0, .inr (8, [.ref a_tp, .ref a_t1, .ref a_t2, .ref a_w1, .int n_h0_waits_15, .int uo, .int up, .ref a_dr, h0_8])), (a_w1, .inl (ca_w1, 104, .inl fa_w1)), (a_dr, .inr (7, [.ref a_d1, .ref a_d2, .ref a_d3, .int n_a_dr_length_16, .int rc, .int n_a_dr_knots_35])), (a_d1, .inl (ca_d1, 96, .inl g_a_d1_17)), (a_d2, .inl (ca_d2, 96, .inl g_a_d2_18)), (a_d3, .inl (ca_d3, 7, .inl fa_d3))]) hP hD hS hA [4, 0, 7, 1, 2, 3] (by decide) rfl
          have hKc := hK.sub (tys' := [(ca_w1, .int), (ca_d1, .int), (ca_d2, .int), (ca_d3, .int)]) [0, 2, 3, 4] rfl
          refine va_callv (va_runV (As := [.int r_41]) (rest := []) ⟨hx, hb, hml, hown, hts⟩ (s_X8_settle l dC dI H_40.size h0 r_41 a_tp a_t1 a_t2 a_w1 n_h0_waits_15 uo up a_dr h0_8 ca_w1 fa_w1 a_d1 a_d2 a_d3 n_a_dr_length_16 rc n_a_dr_knots_35 ca_d1 g_a_d1_17 ca_d2 g_a_d2_18 ca_d3 fa_d3 hp_19 hB_uo hB_up hp_20 hB_rc hp_36 hI_a_d3) (cwV 1 hts gw_s_X8_takeJoin_s_X8_settle_107 rfl rfl rfl (by decide +kernel) ⟨Nat.le_of_ble_eq_true rfl, Nat.le_of_ble_eq_true rfl⟩) ⟨z_blind, va_recv hKc hPc (ci := 8) (q0 := 0) rfl rfl, z_pre hPc hKc hDc⟩ rfl rfl hl.1 rfl (lv_room (Nat.le_of_ble_eq_true rfl)) dX8_takeJoin_105 ⟨Nat.le_of_ble_eq_true rfl, Nat.le_of_ble_eq_true rfl⟩) hS (fun q _ h => hFc q h) hFc (fun u t H_43 locs ht hvm hw_45 hB hz1 hk1 hS => ?_)
          obtain ⟨n_h0_waits_46, n_a_dr_length_47, g_a_d1_48, g_a_d2_49, hp_50, hp_51, hP1, hK1, hD1⟩ := hB
          rw [ht] at hP1
          have hK1 := va_K.moved hvm.symm hK1
          obtain ⟨hP, hD⟩ := z_ap_2 (va_join (wr := [(a_tp, .inr (10, [.ref a_tb, .int tt, .int ta, .int tj, .int tf, .int ts, .int te, .int to, .int tg, .int n_a_tp_faultSort_33, .int n_a_tp_faultPlace_34])), (a_tb, .inl (ca_tb, 700, .inl fa_tb))]) hP hD [4, 0, 7, 1, 2, 3] [5, 6] rfl rfl (by decide) (by decide) hk1 hFc hP1 hD1)
          clear hPc hDc hKc
          refine lv_aload_n hx hb dX8_takeJoin_108 rfl (lv_at hl 2 rfl) ?_
          refine lv_iload_n hx hb dX8_takeJoin_109 rfl (lv_at hl 1 rfl) ?_
          obtain ⟨hPc, hDc, hFc⟩ := z_sub3 (ws' := [(h0, .inr (8, [.ref a_tp, .ref a_t1, .ref a_t2, .ref a_w1, .int n_h0_waits_46, .int uo, .int up, .ref a_dr, h0_8])), (a_w1, .inl (ca_w1, 104, .inl fa_w1))]) hP hD hS hA [2, 3] (by decide) rfl
          have hKc := hK.sub (tys' := [(ca_w1, .int)]) [0] rfl
          refine va_callv (va_runV (As := [.int r_4]) (rest := []) ⟨hx, hb, hml, hown, hts⟩ (s_X8_await l dC dI H_43.size h0 r_4 a_tp a_t1 a_t2 a_w1 n_h0_waits_46 uo up a_dr h0_8 ca_w1 fa_w1 hp_50) (cwV 1 hts gw_s_X8_takeJoin_s_X8_await_139 rfl rfl rfl (by decide +kernel) ⟨Nat.le_of_ble_eq_true rfl, Nat.le_of_ble_eq_true rfl⟩) ⟨z_blind, va_recv hKc hPc (ci := 8) (q0 := 0) rfl rfl, z_pre hPc hKc hDc⟩ rfl rfl hl.1 rfl (lv_room (Nat.le_of_ble_eq_true rfl)) dX8_takeJoin_110 ⟨Nat.le_of_ble_eq_true rfl, Nat.le_of_ble_eq_true rfl⟩) hS (fun q _ h => hFc q h) hFc (fun u t H_52 locs ht hvm hw_54 hB hz1 hk1 hS => ?_)
          obtain ⟨n_h0_waits_55, g_a_w1_56, hp_57, hP1, hK1, hD1⟩ := hB
          rw [ht] at hP1
          have hK1 := va_K.moved hvm.symm hK1
          obtain ⟨hP, hD⟩ := z_ap_6 (va_join (wr := [(a_tp, .inr (10, [.ref a_tb, .int tt, .int ta, .int tj, .int tf, .int ts, .int te, .int to, .int tg, .int n_a_tp_faultSort_33, .int n_a_tp_faultPlace_34])), (a_tb, .inl (ca_tb, 700, .inl fa_tb)), (a_dr, .inr (7, [.ref a_d1, .ref a_d2, .ref a_d3, .int n_a_dr_length_47, .int rc, .int n_a_dr_knots_35])), (a_d1, .inl (ca_d1, 96, .inl g_a_d1_48)), (a_d2, .inl (ca_d2, 96, .inl g_a_d2_49)), (a_d3, .inl (ca_d3, 7, .inl fa_d3))]) hP hD [2, 3] [0, 1, 4, 5, 6, 7] rfl rfl (by decide) (by decide) hk1 hFc hP1 hD1)
          clear hPc hDc hKc
          refine lv_aload_n hx hb dX8_takeJoin_113 rfl (lv_at hl 2 rfl) ?_
          refine lv_iconst (v := 1) hx hb dX8_takeJoin_114 (by decide) ?_
          refine va_put (D := (dC, dI)) (ci := 8) (v := .int 1) (ty := .boolean) (C := RX8) (T := TX8) (N := 9) hx hb hts hiX8 tyX8 tyX8_ok nmX8 hown hK hP hD hS 6 rfl rfl 6 (by decide) w__fieldLink_RX8_30_ShellHeap_RulesReader_wantsPart_Z_ (fun _ h9 => h9) rfl (by decide +kernel) rfl rfl (Nat.le_of_ble_eq_true rfl) dX8_takeJoin_115 (fun H_58 locs hP hD hS => ?_)
          obtain ⟨hP, hD⟩ := z_s_6_6 hP hD
          refine lv_iconst (v := 1) hx hb dX8_takeJoin_118 (by decide) ?_
          obtain ⟨hP9, hD9⟩ := z_sub2 (ws' := [(h0, .inr (8, [.ref a_tp, .ref a_t1, .ref a_t2, .ref a_w1, .int n_h0_waits_55, .int uo, .int 1, .ref a_dr, h0_8])), (a_w1, .inl (ca_w1, 104, .inl g_a_w1_56)), (a_tp, .inr (10, [.ref a_tb, .int tt, .int ta, .int tj, .int tf, .int ts, .int te, .int to, .int tg, .int n_a_tp_faultSort_33, .int n_a_tp_faultPlace_34])), (a_tb, .inl (ca_tb, 700, .inl fa_tb)), (a_dr, .inr (7, [.ref a_d1, .ref a_d2, .ref a_d3, .int n_a_dr_length_47, .int rc, .int n_a_dr_knots_35])), (a_d1, .inl (ca_d1, 96, .inl g_a_d1_48)), (a_d2, .inl (ca_d2, 96, .inl g_a_d2_49)), (a_d3, .inl (ca_d3, 7, .inl fa_d3))]) hP hD [6, 7, 0, 1, 2, 3, 4, 5] (by decide) rfl
          have hK9 := hK.sub (tys' := []) [] rfl
          refine W.widen (k := 0) (n := 0) (Nat.le_of_ble_eq_true rfl) (Nat.le_of_ble_eq_true rfl) ?_
          exact W.zret (v := 1) hx hb hr (by rfl) (fun t ht hW => ⟨⟨1, (), rfl, (show ((0 : Int) ≤ (1 : Int) ∧ (1 : Int) ≤ (1 : Int)) by decide), ⟨n_h0_waits_55, uo, 1, g_a_w1_56, n_a_tp_faultSort_33, n_a_tp_faultPlace_34, n_a_dr_length_47, n_a_dr_knots_35, g_a_d1_48, g_a_d2_49, hp_57, hB_uo, (by decide), hp_51, hp_36, by rw [ht]; exact hP9, va_K.moved hW.alike hK9, hD9⟩⟩, hS.F ht⟩) hS.2.2 dX8_takeJoin_119
        · have k_59 : (r_31).toInt = (0 : Int) := z_eq c_37
          obtain rfl : r_31 = 0 := z_eq' (show (r_31).toInt = (0 : Int) by omega)
          refine lv_iconst (v := 0) hx hb dX8_takeJoin_98 (by decide) ?_
          obtain ⟨hP9, hD9⟩ := z_sub2 (ws' := [(h0, .inr (8, [.ref a_tp, .ref a_t1, .ref a_t2, .ref a_w1, .int n_h0_waits_15, .int uo, .int up, .ref a_dr, h0_8])), (a_w1, .inl (ca_w1, 104, .inl fa_w1)), (a_tp, .inr (10, [.ref a_tb, .int tt, .int ta, .int tj, .int tf, .int ts, .int te, .int to, .int tg, .int n_a_tp_faultSort_33, .int n_a_tp_faultPlace_34])), (a_tb, .inl (ca_tb, 700, .inl fa_tb)), (a_dr, .inr (7, [.ref a_d1, .ref a_d2, .ref a_d3, .int n_a_dr_length_16, .int rc, .int n_a_dr_knots_35])), (a_d1, .inl (ca_d1, 96, .inl g_a_d1_17)), (a_d2, .inl (ca_d2, 96, .inl g_a_d2_18)), (a_d3, .inl (ca_d3, 7, .inl fa_d3))]) hP hD [4, 0, 5, 6, 7, 1, 2, 3] (by decide) rfl
          have hK9 := hK.sub (tys' := []) [] rfl
          refine W.widen (k := 0) (n := 0) (Nat.le_of_ble_eq_true rfl) (Nat.le_of_ble_eq_true rfl) ?_
          exact W.zret (v := 0) hx hb hr (by rfl) (fun t ht hW => ⟨⟨0, (), rfl, (show ((0 : Int) ≤ (0 : Int) ∧ (0 : Int) ≤ (1 : Int)) by decide), ⟨n_h0_waits_15, uo, up, fa_w1, n_a_tp_faultSort_33, n_a_tp_faultPlace_34, n_a_dr_length_16, n_a_dr_knots_35, g_a_d1_17, g_a_d2_18, hp_19, hB_uo, hB_up, hp_20, hp_36, by rw [ht]; exact hP9, va_K.moved hW.alike hK9, hD9⟩⟩, hS.F ht⟩) hS.2.2 dX8_takeJoin_99
      · have k_61 : (r_22).toInt = (r_25).toInt := z_eq c_27
        refine lv_iconst (v := 1) hx hb dX8_takeJoin_58 (by decide) ?_
        refine lv_goto (tgt := 63) hx hb dX8_takeJoin_59 (by decide) ?_
        refine lv_istore_n (lv' := [(2, .int 1), (1, .int r_4), (0, .ref h0)]) hx hb dX8_takeJoin_63 rfl hl (by decide) rfl (fun ls hl => ?_)
        refine lv_iload_n hx hb dX8_takeJoin_64 rfl (lv_at hl 0 rfl) ?_
        refine lv_if_eq (tgt := 91) hx hb dX8_takeJoin_65 (by decide) (fun c_62 => absurd c_62 (by decide)) (fun _ => ?_)
        refine lv_aload_n hx hb dX8_takeJoin_68 rfl (lv_at hl 2 rfl) ?_
        obtain ⟨hPc, hDc⟩ := z_sub2 (ws' := [(h0, .inr (8, [.ref a_tp, .ref a_t1, .ref a_t2, .ref a_w1, .int n_h0_waits_15, .int uo, .int up, .ref a_dr, h0_8])), (a_w1, .inl (ca_w1, 104, .inl fa_w1))]) hP hD [2, 3] (by decide) rfl
        have hKc := hK.sub (tys' := [(ca_w1, .int)]) [0] rfl
        have hFc := va_free (ws := []) (wc := []) (z_D0 _) hS hA [] rfl
        refine va_calli (va_runV (As := []) (rest := []) ⟨hx, hb, hml, hown, hts⟩ (s_X8_lastWaiting l dC dI H_24.size h0 a_tp a_t1 a_t2 a_w1 n_h0_waits_15 uo up a_dr h0_8 ca_w1 fa_w1 hp_19) (cwV 0 hts gw_s_X8_takeJoin_s_X8_lastWaiting_150 rfl rfl rfl (by decide +kernel) ⟨Nat.le_of_ble_eq_true rfl, Nat.le_of_ble_eq_true rfl⟩) ⟨z_blind, va_recv hKc hPc (ci := 8) (q0 := 0) rfl rfl, z_pre hPc hKc hDc⟩ rfl rfl hl.1 rfl (lv_room (Nat.le_of_ble_eq_true rfl)) dX8_takeJoin_69 ⟨Nat.le_of_ble_eq_true rfl, Nat.le_of_ble_eq_true rfl⟩) hS (fun q _ h => hFc q h) hFc (fun r_64 u t H_63 locs ht hvm hw_65 hB hz1 hk1 hS => ?_)
        replace hP := z_pure hP hk1
        clear hPc hDc hKc
        obtain ⟨hPc, hDc⟩ := z_sub2 (ws' := []) hP hD [] (by decide) rfl
        have hKc := hK.sub (tys' := []) [] rfl
        have hFc := va_free (ws := []) (wc := []) (z_D0 _) hS hA [] rfl
        refine va_calli (va_runS (As := [.int r_64]) (rest := []) ⟨hx, hb, hml, hown, hts⟩ (s_X8_tightness l dC dI H_63.size r_64) (va_cwS 1 hts gw_s_X8_takeJoin_s_X8_tightness_103 rfl rfl rfl (by decide +kernel) ⟨Nat.le_of_ble_eq_true rfl, Nat.le_of_ble_eq_true rfl⟩) ⟨z_blind, z_pre hPc hKc hDc⟩ rfl rfl hl.1 rfl (lv_room (Nat.le_of_ble_eq_true rfl)) dX8_takeJoin_72 ⟨Nat.le_of_ble_eq_true rfl, Nat.le_of_ble_eq_true rfl⟩) hS (fun q _ h => hFc q h) hFc (fun r_67 u t H_66 locs ht hvm hw_68 hB hz1 hk1 hS => ?_)
        replace hP := z_pure hP hk1
        clear hPc hDc hKc
        refine lv_iload_n hx hb dX8_takeJoin_75 rfl (lv_at hl 1 rfl) ?_
        obtain ⟨hPc, hDc⟩ := z_sub2 (ws' := []) hP hD [] (by decide) rfl
        have hKc := hK.sub (tys' := []) [] rfl
        have hFc := va_free (ws := []) (wc := []) (z_D0 _) hS hA [] rfl
        refine va_calli (va_runS (As := [.int r_4]) (rest := [.int r_67]) ⟨hx, hb, hml, hown, hts⟩ (s_X8_tightness l dC dI H_66.size r_4) (va_cwS 1 hts gw_s_X8_takeJoin_s_X8_tightness_103 rfl rfl rfl (by decide +kernel) ⟨Nat.le_of_ble_eq_true rfl, Nat.le_of_ble_eq_true rfl⟩) ⟨z_blind, z_pre hPc hKc hDc⟩ rfl rfl hl.1 rfl (lv_room (Nat.le_of_ble_eq_true rfl)) dX8_takeJoin_76 ⟨Nat.le_of_ble_eq_true rfl, Nat.le_of_ble_eq_true rfl⟩) hS (fun q _ h => hFc q h) hFc (fun r_70 u t H_69 locs ht hvm hw_71 hB hz1 hk1 hS => ?_)
        replace hP := z_pure hP hk1
        clear hPc hDc hKc
        refine lv_icmp_ne (tgt := 91) hx hb dX8_takeJoin_79 (by decide) (fun c_72 => ?_) (fun c_72 => ?_)
        · have k_73 : (r_67).toInt ≠ (r_70).toInt := z_ne c_72
          refine lv_aload_n hx hb dX8_takeJoin_91 rfl (lv_at hl 2 rfl) ?_
          obtain ⟨hPc, hDc, hFc⟩ := z_sub3 (ws' := [(h0, .inr (8, [.ref a_tp, .ref a_t1, .ref a_t2, .ref a_w1, .int n_h0_waits_15, .int uo, .int up, .ref a_dr, h0_8])), (a_tp, .inr (10, [.ref a_tb, .int tt, .int ta, .int tj, .int tf, .int ts, .int te, .int to, .int tg, .int tx, .int ty])), (a_tb, .inl (ca_tb, 700, .inl fa_tb)), (a_dr, .inr (7, [.ref a_d1, .ref a_d2, .ref a_d3, .int n_a_dr_length_16, .int rc, .int rk]))]) hP hD hS hA [2, 0, 1, 4] (by decide) rfl
          have hKc := hK.sub (tys' := [(ca_tb, .int)]) [1] rfl
          refine va_calli (va_runV (As := []) (rest := []) ⟨hx, hb, hml, hown, hts⟩ (s_X8_tieKnot l dC dI H_69.size h0 a_tp a_t1 a_t2 a_w1 n_h0_waits_15 uo up a_dr h0_8 a_tb tt ta tj tf ts te to tg tx ty ca_tb fa_tb a_d1 a_d2 a_d3 n_a_dr_length_16 rc rk hB_tt hB_ta hB_tf hB_ts hB_te hp_19 hB_uo hB_up hp_20 hB_rc hB_rk hI_a_tb) (cwV 0 hts gw_s_X8_takeJoin_s_X8_tieKnot_133 rfl rfl rfl (by decide +kernel) ⟨Nat.le_of_ble_eq_true rfl, Nat.le_of_ble_eq_true rfl⟩) ⟨z_blind, va_recv hKc hPc (ci := 8) (q0 := 0) rfl rfl, z_pre hPc hKc hDc⟩ rfl rfl hl.1 rfl (lv_room (Nat.le_of_ble_eq_true rfl)) dX8_takeJoin_92 ⟨Nat.le_of_ble_eq_true rfl, Nat.le_of_ble_eq_true rfl⟩) hS (fun q _ h => hFc q h) hFc (fun r_75 u t H_74 locs ht hvm hw_76 hB hz1 hk1 hS => ?_)
          obtain ⟨n_a_tp_faultSort_77, n_a_tp_faultPlace_78, n_a_dr_knots_79, hp_80, hP1, hK1, hD1⟩ := hB
          rw [ht] at hP1
          have hK1 := va_K.moved hvm.symm hK1
          obtain ⟨hP, hD⟩ := z_ap_4 (va_join (wr := [(a_w1, .inl (ca_w1, 104, .inl fa_w1)), (a_d1, .inl (ca_d1, 96, .inl g_a_d1_17)), (a_d2, .inl (ca_d2, 96, .inl g_a_d2_18)), (a_d3, .inl (ca_d3, 7, .inl fa_d3))]) hP hD [2, 0, 1, 4] [3, 5, 6, 7] rfl rfl (by decide) (by decide) hk1 hFc hP1 hD1)
          clear hPc hDc hKc
          refine lv_if_ne (tgt := 100) hx hb dX8_takeJoin_95 (by decide) (fun c_81 => ?_) (fun c_81 => ?_)
          · have k_82 : (r_75).toInt ≠ (0 : Int) := z_ne c_81
            obtain rfl : r_75 = 1 := z_eq' (show (r_75).toInt = (1 : Int) by omega)
            refine lv_aload_n hx hb dX8_takeJoin_100 rfl (lv_at hl 2 rfl) ?_
            refine lv_iload_n hx hb dX8_takeJoin_101 rfl (lv_at hl 1 rfl) ?_
            obtain ⟨hPc, hDc⟩ := z_sub2 (ws' := []) hP hD [] (by decide) rfl
            have hKc := hK.sub (tys' := []) [] rfl
            have hFc := va_free (ws := []) (wc := []) (z_D0 _) hS hA [] rfl
            refine va_calli (va_runS (As := [.int r_4]) (rest := [.ref h0]) ⟨hx, hb, hml, hown, hts⟩ (s_X8_tightness l dC dI H_74.size r_4) (va_cwS 1 hts gw_s_X8_takeJoin_s_X8_tightness_103 rfl rfl rfl (by decide +kernel) ⟨Nat.le_of_ble_eq_true rfl, Nat.le_of_ble_eq_true rfl⟩) ⟨z_blind, z_pre hPc hKc hDc⟩ rfl rfl hl.1 rfl (lv_room (Nat.le_of_ble_eq_true rfl)) dX8_takeJoin_102 ⟨Nat.le_of_ble_eq_true rfl, Nat.le_of_ble_eq_true rfl⟩) hS (fun q _ h => hFc q h) hFc (fun r_85 u t H_84 locs ht hvm hw_86 hB hz1 hk1 hS => ?_)
            replace hP := z_pure hP hk1
            clear hPc hDc hKc
            obtain ⟨hPc, hDc, hFc⟩ := z_sub3 (ws' := [(h0, .inr (8, [.ref a_tp, .ref a_t1, .ref a_t2, .ref a_w1, .int n_h0_waits_15, .int uo, .int up, .ref a_dr, h0_8])), (a_w1, .inl (ca_w1, 104, .inl fa_w1)), (a_dr, .inr (7, [.ref a_d1, .ref a_d2, .ref a_d3, .int n_a_dr_length_16, .int rc, .int n_a_dr_knots_79])), (a_d1, .inl (ca_d1, 96, .inl g_a_d1_17)), (a_d2, .inl (ca_d2, 96, .inl g_a_d2_18)), (a_d3, .inl (ca_d3, 7, .inl fa_d3))]) hP hD hS hA [4, 0, 7, 1, 2, 3] (by decide) rfl
            have hKc := hK.sub (tys' := [(ca_w1, .int), (ca_d1, .int), (ca_d2, .int), (ca_d3, .int)]) [0, 2, 3, 4] rfl
            refine va_callv (va_runV (As := [.int r_85]) (rest := []) ⟨hx, hb, hml, hown, hts⟩ (s_X8_settle l dC dI H_84.size h0 r_85 a_tp a_t1 a_t2 a_w1 n_h0_waits_15 uo up a_dr h0_8 ca_w1 fa_w1 a_d1 a_d2 a_d3 n_a_dr_length_16 rc n_a_dr_knots_79 ca_d1 g_a_d1_17 ca_d2 g_a_d2_18 ca_d3 fa_d3 hp_19 hB_uo hB_up hp_20 hB_rc hp_80 hI_a_d3) (cwV 1 hts gw_s_X8_takeJoin_s_X8_settle_107 rfl rfl rfl (by decide +kernel) ⟨Nat.le_of_ble_eq_true rfl, Nat.le_of_ble_eq_true rfl⟩) ⟨z_blind, va_recv hKc hPc (ci := 8) (q0 := 0) rfl rfl, z_pre hPc hKc hDc⟩ rfl rfl hl.1 rfl (lv_room (Nat.le_of_ble_eq_true rfl)) dX8_takeJoin_105 ⟨Nat.le_of_ble_eq_true rfl, Nat.le_of_ble_eq_true rfl⟩) hS (fun q _ h => hFc q h) hFc (fun u t H_87 locs ht hvm hw_89 hB hz1 hk1 hS => ?_)
            obtain ⟨n_h0_waits_90, n_a_dr_length_91, g_a_d1_92, g_a_d2_93, hp_94, hp_95, hP1, hK1, hD1⟩ := hB
            rw [ht] at hP1
            have hK1 := va_K.moved hvm.symm hK1
            obtain ⟨hP, hD⟩ := z_ap_2 (va_join (wr := [(a_tp, .inr (10, [.ref a_tb, .int tt, .int ta, .int tj, .int tf, .int ts, .int te, .int to, .int tg, .int n_a_tp_faultSort_77, .int n_a_tp_faultPlace_78])), (a_tb, .inl (ca_tb, 700, .inl fa_tb))]) hP hD [4, 0, 7, 1, 2, 3] [5, 6] rfl rfl (by decide) (by decide) hk1 hFc hP1 hD1)
            clear hPc hDc hKc
            refine lv_aload_n hx hb dX8_takeJoin_108 rfl (lv_at hl 2 rfl) ?_
            refine lv_iload_n hx hb dX8_takeJoin_109 rfl (lv_at hl 1 rfl) ?_
            obtain ⟨hPc, hDc, hFc⟩ := z_sub3 (ws' := [(h0, .inr (8, [.ref a_tp, .ref a_t1, .ref a_t2, .ref a_w1, .int n_h0_waits_90, .int uo, .int up, .ref a_dr, h0_8])), (a_w1, .inl (ca_w1, 104, .inl fa_w1))]) hP hD hS hA [2, 3] (by decide) rfl
            have hKc := hK.sub (tys' := [(ca_w1, .int)]) [0] rfl
            refine va_callv (va_runV (As := [.int r_4]) (rest := []) ⟨hx, hb, hml, hown, hts⟩ (s_X8_await l dC dI H_87.size h0 r_4 a_tp a_t1 a_t2 a_w1 n_h0_waits_90 uo up a_dr h0_8 ca_w1 fa_w1 hp_94) (cwV 1 hts gw_s_X8_takeJoin_s_X8_await_139 rfl rfl rfl (by decide +kernel) ⟨Nat.le_of_ble_eq_true rfl, Nat.le_of_ble_eq_true rfl⟩) ⟨z_blind, va_recv hKc hPc (ci := 8) (q0 := 0) rfl rfl, z_pre hPc hKc hDc⟩ rfl rfl hl.1 rfl (lv_room (Nat.le_of_ble_eq_true rfl)) dX8_takeJoin_110 ⟨Nat.le_of_ble_eq_true rfl, Nat.le_of_ble_eq_true rfl⟩) hS (fun q _ h => hFc q h) hFc (fun u t H_96 locs ht hvm hw_98 hB hz1 hk1 hS => ?_)
            obtain ⟨n_h0_waits_99, g_a_w1_100, hp_101, hP1, hK1, hD1⟩ := hB
            rw [ht] at hP1
            have hK1 := va_K.moved hvm.symm hK1
            obtain ⟨hP, hD⟩ := z_ap_6 (va_join (wr := [(a_tp, .inr (10, [.ref a_tb, .int tt, .int ta, .int tj, .int tf, .int ts, .int te, .int to, .int tg, .int n_a_tp_faultSort_77, .int n_a_tp_faultPlace_78])), (a_tb, .inl (ca_tb, 700, .inl fa_tb)), (a_dr, .inr (7, [.ref a_d1, .ref a_d2, .ref a_d3, .int n_a_dr_length_91, .int rc, .int n_a_dr_knots_79])), (a_d1, .inl (ca_d1, 96, .inl g_a_d1_92)), (a_d2, .inl (ca_d2, 96, .inl g_a_d2_93)), (a_d3, .inl (ca_d3, 7, .inl fa_d3))]) hP hD [2, 3] [0, 1, 4, 5, 6, 7] rfl rfl (by decide) (by decide) hk1 hFc hP1 hD1)
            clear hPc hDc hKc
            refine lv_aload_n hx hb dX8_takeJoin_113 rfl (lv_at hl 2 rfl) ?_
            refine lv_iconst (v := 1) hx hb dX8_takeJoin_114 (by decide) ?_
            refine va_put (D := (dC, dI)) (ci := 8) (v := .int 1) (ty := .boolean) (C := RX8) (T := TX8) (N := 9) hx hb hts hiX8 tyX8 tyX8_ok nmX8 hown hK hP hD hS 6 rfl rfl 6 (by decide) w__fieldLink_RX8_30_ShellHeap_RulesReader_wantsPart_Z_ (fun _ h9 => h9) rfl (by decide +kernel) rfl rfl (Nat.le_of_ble_eq_true rfl) dX8_takeJoin_115 (fun H_102 locs hP hD hS => ?_)
            obtain ⟨hP, hD⟩ := z_s_6_6 hP hD
            refine lv_iconst (v := 1) hx hb dX8_takeJoin_118 (by decide) ?_
            obtain ⟨hP9, hD9⟩ := z_sub2 (ws' := [(h0, .inr (8, [.ref a_tp, .ref a_t1, .ref a_t2, .ref a_w1, .int n_h0_waits_99, .int uo, .int 1, .ref a_dr, h0_8])), (a_w1, .inl (ca_w1, 104, .inl g_a_w1_100)), (a_tp, .inr (10, [.ref a_tb, .int tt, .int ta, .int tj, .int tf, .int ts, .int te, .int to, .int tg, .int n_a_tp_faultSort_77, .int n_a_tp_faultPlace_78])), (a_tb, .inl (ca_tb, 700, .inl fa_tb)), (a_dr, .inr (7, [.ref a_d1, .ref a_d2, .ref a_d3, .int n_a_dr_length_91, .int rc, .int n_a_dr_knots_79])), (a_d1, .inl (ca_d1, 96, .inl g_a_d1_92)), (a_d2, .inl (ca_d2, 96, .inl g_a_d2_93)), (a_d3, .inl (ca_d3, 7, .inl fa_d3))]) hP hD [6, 7, 0, 1, 2, 3, 4, 5] (by decide) rfl
            have hK9 := hK.sub (tys' := []) [] rfl
            refine W.widen (k := 0) (n := 0) (Nat.le_of_ble_eq_true rfl) (Nat.le_of_ble_eq_true rfl) ?_
            exact W.zret (v := 1) hx hb hr (by rfl) (fun t ht hW => ⟨⟨1, (), rfl, (show ((0 : Int) ≤ (1 : Int) ∧ (1 : Int) ≤ (1 : Int)) by decide), ⟨n_h0_waits_99, uo, 1, g_a_w1_100, n_a_tp_faultSort_77, n_a_tp_faultPlace_78, n_a_dr_length_91, n_a_dr_knots_79, g_a_d1_92, g_a_d2_93, hp_101, hB_uo, (by decide), hp_95, hp_80, by rw [ht]; exact hP9, va_K.moved hW.alike hK9, hD9⟩⟩, hS.F ht⟩) hS.2.2 dX8_takeJoin_119
          · have k_103 : (r_75).toInt = (0 : Int) := z_eq c_81
            obtain rfl : r_75 = 0 := z_eq' (show (r_75).toInt = (0 : Int) by omega)
            refine lv_iconst (v := 0) hx hb dX8_takeJoin_98 (by decide) ?_
            obtain ⟨hP9, hD9⟩ := z_sub2 (ws' := [(h0, .inr (8, [.ref a_tp, .ref a_t1, .ref a_t2, .ref a_w1, .int n_h0_waits_15, .int uo, .int up, .ref a_dr, h0_8])), (a_w1, .inl (ca_w1, 104, .inl fa_w1)), (a_tp, .inr (10, [.ref a_tb, .int tt, .int ta, .int tj, .int tf, .int ts, .int te, .int to, .int tg, .int n_a_tp_faultSort_77, .int n_a_tp_faultPlace_78])), (a_tb, .inl (ca_tb, 700, .inl fa_tb)), (a_dr, .inr (7, [.ref a_d1, .ref a_d2, .ref a_d3, .int n_a_dr_length_16, .int rc, .int n_a_dr_knots_79])), (a_d1, .inl (ca_d1, 96, .inl g_a_d1_17)), (a_d2, .inl (ca_d2, 96, .inl g_a_d2_18)), (a_d3, .inl (ca_d3, 7, .inl fa_d3))]) hP hD [4, 0, 5, 6, 7, 1, 2, 3] (by decide) rfl
            have hK9 := hK.sub (tys' := []) [] rfl
            refine W.widen (k := 0) (n := 0) (Nat.le_of_ble_eq_true rfl) (Nat.le_of_ble_eq_true rfl) ?_
            exact W.zret (v := 0) hx hb hr (by rfl) (fun t ht hW => ⟨⟨0, (), rfl, (show ((0 : Int) ≤ (0 : Int) ∧ (0 : Int) ≤ (1 : Int)) by decide), ⟨n_h0_waits_15, uo, up, fa_w1, n_a_tp_faultSort_77, n_a_tp_faultPlace_78, n_a_dr_length_16, n_a_dr_knots_79, g_a_d1_17, g_a_d2_18, hp_19, hB_uo, hB_up, hp_20, hp_80, by rw [ht]; exact hP9, va_K.moved hW.alike hK9, hD9⟩⟩, hS.F ht⟩) hS.2.2 dX8_takeJoin_99
        · have k_105 : (r_67).toInt = (r_70).toInt := z_eq c_72
          refine lv_aload_n hx hb dX8_takeJoin_82 rfl (lv_at hl 2 rfl) ?_
          refine va_get (D := (dC, dI)) (ci := 8) (v := .ref a_tp) (C := RX8) (T := TX8) (N := 9) hx hb hts hiX8 hown hK hP 2 rfl rfl 0 (by decide) w__fieldLink_RX8_42_ShellHeap_RulesReader_tape_LShellHeap_Tape_ (fun _ h9 => h9) rfl dX8_takeJoin_83 ?_
          refine lv_iconst (v := 1) hx hb dX8_takeJoin_86 (by decide) ?_
          obtain ⟨hPc, hDc, hFc⟩ := z_sub3 (ws' := [(a_tp, .inr (10, [.ref a_tb, .int tt, .int ta, .int tj, .int tf, .int ts, .int te, .int to, .int tg, .int tx, .int ty]))]) hP hD hS hA [0] (by decide) rfl
          have hKc := hK.sub (tys' := []) [] rfl
          refine va_calli (va_runV (As := [.int 1]) (rest := []) ⟨hx, hb, hml, hown, hts⟩ (s_X10_fail l dC dI H_69.size a_tp 1 (.ref a_tb) (.int tt) (.int ta) (.int tj) (.int tf) ts (.int te) (.int to) (.int tg) tx ty hB_ts) (cwV 1 hts gw_s_X8_takeJoin_s_X10_fail_67 rfl rfl rfl (by decide +kernel) ⟨Nat.le_of_ble_eq_true rfl, Nat.le_of_ble_eq_true rfl⟩) ⟨z_blind, va_recv hKc hPc (ci := 10) (q0 := 0) rfl rfl, z_pre hPc hKc hDc⟩ rfl rfl hl.1 rfl (lv_room (Nat.le_of_ble_eq_true rfl)) dX8_takeJoin_87 ⟨Nat.le_of_ble_eq_true rfl, Nat.le_of_ble_eq_true rfl⟩) hS (fun q _ h => hFc q h) hFc (fun r_107 u t H_106 locs ht hvm hw_108 hB hz1 hk1 hS => ?_)
          obtain ⟨n_h0_faultSort_109, n_h0_faultPlace_110, hP1, hK1, hD1⟩ := hB
          rw [ht] at hP1
          have hK1 := va_K.moved hvm.symm hK1
          obtain ⟨hP, hD⟩ := z_ap_7 (va_join (wr := [(a_tb, .inl (ca_tb, 700, .inl fa_tb)), (h0, .inr (8, [.ref a_tp, .ref a_t1, .ref a_t2, .ref a_w1, .int n_h0_waits_15, .int uo, .int up, .ref a_dr, h0_8])), (a_w1, .inl (ca_w1, 104, .inl fa_w1)), (a_dr, .inr (7, [.ref a_d1, .ref a_d2, .ref a_d3, .int n_a_dr_length_16, .int rc, .int rk])), (a_d1, .inl (ca_d1, 96, .inl g_a_d1_17)), (a_d2, .inl (ca_d2, 96, .inl g_a_d2_18)), (a_d3, .inl (ca_d3, 7, .inl fa_d3))]) hP hD [0] [1, 2, 3, 4, 5, 6, 7] rfl rfl (by decide) (by decide) hk1 hFc hP1 hD1)
          clear hPc hDc hKc
          obtain rfl : r_107 = 0 := hw_108
          obtain ⟨hP9, hD9⟩ := z_sub2 (ws' := [(h0, .inr (8, [.ref a_tp, .ref a_t1, .ref a_t2, .ref a_w1, .int n_h0_waits_15, .int uo, .int up, .ref a_dr, h0_8])), (a_w1, .inl (ca_w1, 104, .inl fa_w1)), (a_tp, .inr (10, [.ref a_tb, .int tt, .int ta, .int tj, .int tf, .int ts, .int te, .int to, .int tg, .int n_h0_faultSort_109, .int n_h0_faultPlace_110])), (a_tb, .inl (ca_tb, 700, .inl fa_tb)), (a_dr, .inr (7, [.ref a_d1, .ref a_d2, .ref a_d3, .int n_a_dr_length_16, .int rc, .int rk])), (a_d1, .inl (ca_d1, 96, .inl g_a_d1_17)), (a_d2, .inl (ca_d2, 96, .inl g_a_d2_18)), (a_d3, .inl (ca_d3, 7, .inl fa_d3))]) hP hD [1, 2, 7, 0, 3, 4, 5, 6] (by decide) rfl
          have hK9 := hK.sub (tys' := []) [] rfl
          refine W.widen (k := 0) (n := 0) (Nat.le_of_ble_eq_true rfl) (Nat.le_of_ble_eq_true rfl) ?_
          exact W.zret (v := 0) hx hb hr (by rfl) (fun t ht hW => ⟨⟨0, (), rfl, (show ((0 : Int) ≤ (0 : Int) ∧ (0 : Int) ≤ (1 : Int)) by decide), ⟨n_h0_waits_15, uo, up, fa_w1, n_h0_faultSort_109, n_h0_faultPlace_110, n_a_dr_length_16, rk, g_a_d1_17, g_a_d2_18, hp_19, hB_uo, hB_up, hp_20, hB_rk, by rw [ht]; exact hP9, va_K.moved hW.alike hK9, hD9⟩⟩, hS.F ht⟩) hS.2.2 dX8_takeJoin_90
    · have k_111 : (r_4).toInt = (-1 : Int) := z_eq c_6
      obtain rfl : r_4 = (-1) := z_eq' (show (r_4).toInt = (-1 : Int) by omega)
      refine lv_aload_n hx hb dX8_takeJoin_27 rfl (lv_at hl 1 rfl) ?_
      refine va_get (D := (dC, dI)) (ci := 8) (v := .ref a_tp) (C := RX8) (T := TX8) (N := 9) hx hb hts hiX8 hown hK hP 0 rfl rfl 0 (by decide) w__fieldLink_RX8_42_ShellHeap_RulesReader_tape_LShellHeap_Tape_ (fun _ h9 => h9) rfl dX8_takeJoin_28 ?_
      refine lv_iconst (v := 1) hx hb dX8_takeJoin_31 (by decide) ?_
      obtain ⟨hPc, hDc, hFc⟩ := z_sub3 (ws' := [(a_tp, .inr (10, [.ref a_tb, .int tt, .int ta, .int tj, .int tf, .int ts, .int te, .int to, .int tg, .int tx, .int ty]))]) hP hD hS hA [2] (by decide) rfl
      have hKc := hK.sub (tys' := []) [] rfl
      refine va_calli (va_runV (As := [.int 1]) (rest := []) ⟨hx, hb, hml, hown, hts⟩ (s_X10_fail l dC dI H_3.size a_tp 1 (.ref a_tb) (.int tt) (.int ta) (.int tj) (.int tf) ts (.int te) (.int to) (.int tg) tx ty hB_ts) (cwV 1 hts gw_s_X8_takeJoin_s_X10_fail_67 rfl rfl rfl (by decide +kernel) ⟨Nat.le_of_ble_eq_true rfl, Nat.le_of_ble_eq_true rfl⟩) ⟨z_blind, va_recv hKc hPc (ci := 10) (q0 := 0) rfl rfl, z_pre hPc hKc hDc⟩ rfl rfl hl.1 rfl (lv_room (Nat.le_of_ble_eq_true rfl)) dX8_takeJoin_32 ⟨Nat.le_of_ble_eq_true rfl, Nat.le_of_ble_eq_true rfl⟩) hS (fun q _ h => hFc q h) hFc (fun r_114 u t H_113 locs ht hvm hw_115 hB hz1 hk1 hS => ?_)
      obtain ⟨n_h0_faultSort_116, n_h0_faultPlace_117, hP1, hK1, hD1⟩ := hB
      rw [ht] at hP1
      have hK1 := va_K.moved hvm.symm hK1
      obtain ⟨hP, hD⟩ := z_ap_7 (va_join (wr := [(h0, .inr (8, [.ref a_tp, .ref a_t1, .ref a_t2, .ref a_w1, .int uw, .int uo, .int up, .ref a_dr, h0_8])), (a_w1, .inl (ca_w1, 104, .inl fa_w1)), (a_tb, .inl (ca_tb, 700, .inl fa_tb)), (a_dr, .inr (7, [.ref a_d1, .ref a_d2, .ref a_d3, .int rl, .int rc, .int rk])), (a_d1, .inl (ca_d1, 96, .inl fa_d1)), (a_d2, .inl (ca_d2, 96, .inl fa_d2)), (a_d3, .inl (ca_d3, 7, .inl fa_d3))]) hP hD [2] [0, 1, 3, 4, 5, 6, 7] rfl rfl (by decide) (by decide) hk1 hFc hP1 hD1)
      clear hPc hDc hKc
      obtain rfl : r_114 = 0 := hw_115
      obtain ⟨hP9, hD9⟩ := z_sub2 (ws' := [(h0, .inr (8, [.ref a_tp, .ref a_t1, .ref a_t2, .ref a_w1, .int uw, .int uo, .int up, .ref a_dr, h0_8])), (a_w1, .inl (ca_w1, 104, .inl fa_w1)), (a_tp, .inr (10, [.ref a_tb, .int tt, .int ta, .int tj, .int tf, .int ts, .int te, .int to, .int tg, .int n_h0_faultSort_116, .int n_h0_faultPlace_117])), (a_tb, .inl (ca_tb, 700, .inl fa_tb)), (a_dr, .inr (7, [.ref a_d1, .ref a_d2, .ref a_d3, .int rl, .int rc, .int rk])), (a_d1, .inl (ca_d1, 96, .inl fa_d1)), (a_d2, .inl (ca_d2, 96, .inl fa_d2)), (a_d3, .inl (ca_d3, 7, .inl fa_d3))]) hP hD [0, 1, 7, 2, 3, 4, 5, 6] (by decide) rfl
      have hK9 := hK.sub (tys' := []) [] rfl
      refine W.widen (k := 0) (n := 0) (Nat.le_of_ble_eq_true rfl) (Nat.le_of_ble_eq_true rfl) ?_
      exact W.zret (v := 0) hx hb hr (by rfl) (fun t ht hW => ⟨⟨0, (), rfl, (show ((0 : Int) ≤ (0 : Int) ∧ (0 : Int) ≤ (1 : Int)) by decide), ⟨uw, uo, up, fa_w1, n_h0_faultSort_116, n_h0_faultPlace_117, rl, rk, fa_d1, fa_d2, hB_uw, hB_uo, hB_up, hB_rl, hB_rk, by rw [ht]; exact hP9, va_K.moved hW.alike hK9, hD9⟩⟩, hS.F ht⟩) hS.2.2 dX8_takeJoin_35
  · have k_118 : (tg).toInt = (41 : Int) := z_eq c_1
    obtain rfl : tg = 41 := z_eq' (show (tg).toInt = (41 : Int) by omega)
    refine lv_aload_n hx hb dX8_takeJoin_12 rfl (lv_at hl 0 rfl) ?_
    have hPc := hP
    have hDc := hD
    have hKc := hK
    have hFc := z_freeI hD hS hA
    refine va_calli (va_runV (As := []) (rest := []) ⟨hx, hb, hml, hown, hts⟩ (s_X8_takeClose l dC dI s.heap.size h0 a_tp a_t1 a_t2 a_w1 uw uo up a_dr h0_8 ca_w1 fa_w1 a_tb tt ta tj tf ts te to 41 tx ty ca_tb fa_tb a_d1 a_d2 a_d3 rl rc rk ca_d1 fa_d1 ca_d2 fa_d2 ca_d3 fa_d3 hB_tt hB_ta hB_tf hB_ts hB_te hB_uw hB_uo hB_up hB_rl hB_rc hB_rk hI_a_tb hI_a_d3) (cwV 0 hts gw_s_X8_takeJoin_s_X8_takeClose_154 rfl rfl rfl (by decide +kernel) ⟨Nat.le_of_ble_eq_true rfl, Nat.le_of_ble_eq_true rfl⟩) ⟨z_blind, va_recv hKc hPc (ci := 8) (q0 := 0) rfl rfl, z_pre hPc hKc hDc⟩ rfl rfl hl.1 rfl (lv_room (Nat.le_of_ble_eq_true rfl)) dX8_takeJoin_13 ⟨Nat.le_of_ble_eq_true rfl, Nat.le_of_ble_eq_true rfl⟩) hS (fun q _ h => hFc q h) hFc (fun r_121 u t H_120 locs ht hvm hw_122 hB hz1 hk1 hS => ?_)
    obtain ⟨n_h0_waits_123, n_h0_open_124, n_a_tp_faultSort_125, n_a_tp_faultPlace_126, n_a_dr_length_127, g_a_d1_128, g_a_d2_129, hp_130, hp_131, hp_132, hP1, hK1, hD1⟩ := hB
    rw [ht] at hP1
    have hK1 := va_K.moved hvm.symm hK1
    obtain ⟨hP, hD⟩ := z_ap_0 (va_join (wr := []) hP hD [0, 1, 2, 3, 4, 5, 6, 7] [] rfl rfl (by decide) (by decide) hk1 hFc hP1 hD1)
    clear hPc hDc hKc
    have hP9 := hP
    have hD9 := hD
    have hK9 := hK.sub (tys' := []) [] rfl
    refine W.widen (k := 0) (n := 0) (Nat.le_of_ble_eq_true rfl) (Nat.le_of_ble_eq_true rfl) ?_
    exact W.zret (v := r_121) hx hb hr (z_nb (by omega)) (fun t ht hW => ⟨⟨r_121, (), rfl, (show ((0 : Int) ≤ (r_121).toInt ∧ (r_121).toInt ≤ (1 : Int)) by omega), ⟨n_h0_waits_123, n_h0_open_124, up, fa_w1, n_a_tp_faultSort_125, n_a_tp_faultPlace_126, n_a_dr_length_127, rk, g_a_d1_128, g_a_d2_129, hp_130, hp_131, hB_up, hp_132, hB_rk, by rw [ht]; exact hP9, va_K.moved hW.alike hK9, hD9⟩⟩, hS.F ht⟩) hS.2.2 dX8_takeJoin_16
