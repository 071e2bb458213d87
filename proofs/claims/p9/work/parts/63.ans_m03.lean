def u_s_X1_passSign_59 : List Cond := .code yX1_passSign cX1_passSign 2 (some .boolean) :: ([.fieldLink RX1 24 "ShellHeap$FindsReader" "tape" "LShellHeap$Tape;", .fieldLink RX1 59 "ShellHeap$Tape" "sign" "I", .methodLink RX1 62 yX10_next, .instanceMethod yX10_next, .selects RX10 yX10_next yX10_next, .initialized RX10, .methodLink RX1 55 yX10_fail, .instanceMethod yX10_fail, .selects RX10 yX10_fail yX10_fail] ++ (wsX10 ++ (wsX100 ++ (u_s_X10_next3 ++ (u_s_X10_fail ++ [])))))
theorem gd_s_X1_passSign_59 : z_gd u_s_X1_passSign_59 := z_gdc (by decide +kernel) (z_gda gdX1 (z_gda gdX10 (z_gda gd_s_X10_next3 (z_gda gd_s_X10_fail (z_gd0)))))
set_option maxRecDepth 20000 in
theorem gw_s_X1_passSign_59_s_X10_next3_62 : GoodIn u_s_X1_passSign_59 (wsV RX1 62 RX10 yX10_next u_s_X10_next3) := z_gV (z_gr _ [3, 4, 5, 6] rfl (by decide +kernel)) (fun w h => ⟨z_mc (z_mr (z_mr (z_mr (z_ml h)))), gd_s_X10_next3 w h⟩)
set_option maxRecDepth 20000 in
theorem gw_s_X1_passSign_59_s_X10_fail_55 : GoodIn u_s_X1_passSign_59 (wsV RX1 55 RX10 yX10_fail u_s_X10_fail) := z_gV (z_gr _ [7, 8, 9, 6] rfl (by decide +kernel)) (fun w h => ⟨z_mc (z_mr (z_mr (z_mr (z_mr (z_ml h))))), gd_s_X10_fail w h⟩)
set_option maxHeartbeats 4000000 in
set_option maxRecDepth 100000 in
theorem s_X1_passSign_59 (l : Launch) (dC : Nat → ClassId) (dI : Nat → Nat → Nat) (sz : Nat) (sd : Nat → Nat) (sv : Nat → Nat) (sf : Value) (h0 : Nat) (a_tp : Nat) (a_pa : Nat) (fn : Int32) (fk : Int32) (fs : Int32) (fp : Int32) (a_tb : Nat) (tt : Int32) (ta : Int32) (tf : Int32) (ts : Int32) (te : Int32) (to : Int32) (tg : Int32) (tx : Int32) (ty : Int32) (ca_tb : ClassId) (fa_tb : Nat → Int32) (a_pa_0 : Value) (a_pa_1 : Value) (a_fo : Nat) (a_pa_3 : Value) (a_pa_4 : Value) (a_pa_5 : Value) (a_pa_6 : Value) (a_pa_7 : Value) (a_pa_8 : Value) (pk : Int32) (hB_tt : ((0 : Int) ≤ (tt).toInt ∧ (tt).toInt ≤ (700 : Int))) (hB_ta : ((0 : Int) ≤ (ta).toInt ∧ (ta).toInt ≤ (700 : Int))) (hB_tf : ((0 : Int) ≤ (tf).toInt ∧ (tf).toInt ≤ (700 : Int))) (hB_ts : ((0 : Int) ≤ (ts).toInt ∧ (ts).toInt ≤ (700 : Int))) (hB_te : ((0 : Int) ≤ (te).toInt ∧ (te).toInt ≤ (700 : Int))) (hB_pk : ((0 : Int) ≤ (pk).toInt ∧ (pk).toInt ≤ (6 : Int))) (hI_a_tb : ∀ j : Nat, ((0 : Int) ≤ (fa_tb j).toInt ∧ (fa_tb j).toInt ≤ (255 : Int))) (hC : f_C fa_tb tt.toInt to.toInt tg.toInt ts.toInt te.toInt) (hpg : f_pg to.toInt ts.toInt te.toInt) (hat : ta.toInt = te.toInt ∧ te.toInt ≤ tt.toInt ∧ ts.toInt ≤ te.toInt) (hn0 : to.toInt ≠ 0 ∧ tg.toInt ≠ 44) : Met l yX1_passSign u_s_X1_passSign_59 ({ frames := 3, cells := 0, slots := 0, locals := 61 }) (va_Pc [.ref h0, .int 59] (z_CS (dC, dI) vwCl [(h0, .inr (1, [.ref a_tp, .ref a_pa, .int fn, .int fk, .int fs, .int fp])), (a_tp, .inr (10, [.ref a_tb, .int tt, .int ta, .int 1, .int tf, .int ts, .int te, .int to, .int tg, .int tx, .int ty])), (a_tb, .inl (ca_tb, 700, .inl fa_tb)), (a_pa, .inr (5, [a_pa_0, a_pa_1, .ref a_fo, a_pa_3, a_pa_4, a_pa_5, a_pa_6, a_pa_7, a_pa_8, .int pk]))] [(ca_tb, .int)] sz sd sv sf [(h0, .inr (1, [.ref a_tp, .ref a_pa, .int fn, .int fk, .int fs, .int fp])), (a_tp, .inr (10, [.ref a_tb, .int tt, .int ta, .int 1, .int tf, .int ts, .int te, .int to, .int tg, .int tx, .int ty])), (a_tb, .inl (ca_tb, 700, .inl fa_tb)), (a_pa, .inr (5, [a_pa_0, a_pa_1, .ref a_fo, a_pa_3, a_pa_4, a_pa_5, a_pa_6, a_pa_7, a_pa_8, .int pk]))])) (va_Qi (fun (r : Int32) (u : Int32) => r = u ∧ ((r = 1 ∧ True) ∨ (r = 0 ∧ True))) (fun (u : Int32) (t : State) => ∃ (n_a_tp_at : Int32), ∃ (n_a_tp_start : Int32), ∃ (n_a_tp_end : Int32), ∃ (n_a_tp_sort : Int32), ∃ (n_a_tp_sign : Int32), ∃ (n_a_tp_faultSort : Int32), ∃ (n_a_tp_faultPlace : Int32), ((0 : Int) ≤ (n_a_tp_at).toInt ∧ (n_a_tp_at).toInt ≤ (700 : Int)) ∧ ((0 : Int) ≤ (n_a_tp_start).toInt ∧ (n_a_tp_start).toInt ≤ (700 : Int)) ∧ ((0 : Int) ≤ (n_a_tp_end).toInt ∧ (n_a_tp_end).toInt ≤ (700 : Int)) ∧ (u = 1 → (n_a_tp_at.toInt = n_a_tp_end.toInt ∧ n_a_tp_end.toInt ≤ tt.toInt ∧ n_a_tp_start.toInt ≤ n_a_tp_end.toInt ∧ ts.toInt + 1 ≤ n_a_tp_start.toInt)) ∧ (u = 1 → f_C fa_tb tt.toInt n_a_tp_sort.toInt n_a_tp_sign.toInt n_a_tp_start.toInt n_a_tp_end.toInt) ∧ (u = 1 → f_pg n_a_tp_sort.toInt n_a_tp_start.toInt n_a_tp_end.toInt) ∧ (u = 1 → (f_E fa_tb tt.toInt pk.toInt 5 fp ts.toInt ↔ f_E fa_tb tt.toInt pk.toInt 6 0 n_a_tp_start.toInt)) ∧ (u = 0 → ¬ f_E fa_tb tt.toInt pk.toInt 5 fp ts.toInt) ∧ va_P (dC, dI) vwCl [(h0, .inr (1, [.ref a_tp, .ref a_pa, .int fn, .int fk, .int fs, .int fp])), (a_tp, .inr (10, [.ref a_tb, .int tt, .int n_a_tp_at, .int 1, .int tf, .int n_a_tp_start, .int n_a_tp_end, .int n_a_tp_sort, .int n_a_tp_sign, .int n_a_tp_faultSort, .int n_a_tp_faultPlace])), (a_tb, .inl (ca_tb, 700, .inl fa_tb)), (a_pa, .inr (5, [a_pa_0, a_pa_1, .ref a_fo, a_pa_3, a_pa_4, a_pa_5, a_pa_6, a_pa_7, a_pa_8, .int pk]))] t.heap ∧ va_K (dC, dI) vwCl [] t ∧ va_D (va_A [(h0, .inr (1, [.ref a_tp, .ref a_pa, .int fn, .int fk, .int fs, .int fp])), (a_tp, .inr (10, [.ref a_tb, .int tt, .int ta, .int 1, .int tf, .int ts, .int te, .int to, .int tg, .int tx, .int ty])), (a_tb, .inl (ca_tb, 700, .inl fa_tb)), (a_pa, .inr (5, [a_pa_0, a_pa_1, .ref a_fo, a_pa_3, a_pa_4, a_pa_5, a_pa_6, a_pa_7, a_pa_8, .int pk]))] sz) [(h0, .inr (1, [.ref a_tp, .ref a_pa, .int fn, .int fk, .int fs, .int fp])), (a_tp, .inr (10, [.ref a_tb, .int tt, .int n_a_tp_at, .int 1, .int tf, .int n_a_tp_start, .int n_a_tp_end, .int n_a_tp_sort, .int n_a_tp_sign, .int n_a_tp_faultSort, .int n_a_tp_faultPlace])), (a_tb, .inl (ca_tb, 700, .inl fa_tb)), (a_pa, .inr (5, [a_pa_0, a_pa_1, .ref a_fo, a_pa_3, a_pa_4, a_pa_5, a_pa_6, a_pa_7, a_pa_8, .int pk]))]) (va_A [(h0, .inr (1, [.ref a_tp, .ref a_pa, .int fn, .int fk, .int fs, .int fp])), (a_tp, .inr (10, [.ref a_tb, .int tt, .int ta, .int 1, .int tf, .int ts, .int te, .int to, .int tg, .int tx, .int ty])), (a_tb, .inl (ca_tb, 700, .inl fa_tb)), (a_pa, .inr (5, [a_pa_0, a_pa_1, .ref a_fo, a_pa_3, a_pa_4, a_pa_5, a_pa_6, a_pa_7, a_pa_8, .int pk]))] sz)) 0 0 (va_A [(h0, .inr (1, [.ref a_tp, .ref a_pa, .int fn, .int fk, .int fs, .int fp])), (a_tp, .inr (10, [.ref a_tb, .int tt, .int ta, .int 1, .int tf, .int ts, .int te, .int to, .int tg, .int tx, .int ty])), (a_tb, .inl (ca_tb, 700, .inl fa_tb)), (a_pa, .inr (5, [a_pa_0, a_pa_1, .ref a_fo, a_pa_3, a_pa_4, a_pa_5, a_pa_6, a_pa_7, a_pa_8, .int pk]))] sz) := by
  refine Met.ofW (cc := cX1_passSign) (maxL := 2) (ret := (some .boolean)) (by decide) rfl ?_
  intro p e s m args below meth c s₁ B hml hv
  obtain ⟨rfl, ⟨hsz, hP, hK, hD0⟩, hST⟩ := hv
  have hx := B.exec
  have hb := B.bytes
  have hr := B.returns
  have hts := atoms_spec (ws := u_s_X1_passSign_59) B.pre
  have hown : s.vm.findClass RX1 = some m.cls := findClass_of_methodNamed B.named
  have hlocks := B.notSynchronized
  subst hsz
  have hD := hD0.self (sz := s.heap.size)
  generalize hAe : va_A [(h0, .inr (1, [.ref a_tp, .ref a_pa, .int fn, .int fk, .int fs, .int fp])), (a_tp, .inr (10, [.ref a_tb, .int tt, .int ta, .int 1, .int tf, .int ts, .int te, .int to, .int tg, .int tx, .int ty])), (a_tb, .inl (ca_tb, 700, .inl fa_tb)), (a_pa, .inr (5, [a_pa_0, a_pa_1, .ref a_fo, a_pa_3, a_pa_4, a_pa_5, a_pa_6, a_pa_7, a_pa_8, .int pk]))] s.heap.size = A at hD hST ⊢
  have hA : ∀ q : Nat, s.heap.size ≤ q → A q := fun q h => by rw [← hAe]; exact Or.inr h
  have hS : va_S A s.heap s.heap [] := va_S.rf
  have hP : va_P (dC, dI) vwCl [(h0, .inr (1, [.ref a_tp, .ref a_pa, .int fn, .int fk, .int fs, .int fp])), (a_tp, .inr (10, [.ref a_tb, .int tt, .int ta, .int 1, .int tf, .int ts, .int te, .int to, .int tg, .int tx, .int ty])), (a_tb, .inl (ca_tb, 700, .inl fa_tb)), (a_pa, .inr (5, [a_pa_0, a_pa_1, .ref a_fo, a_pa_3, a_pa_4, a_pa_5, a_pa_6, a_pa_7, a_pa_8, .int pk]))] s.heap := hP
  have w__fieldLink_RX1_24_ShellHeap_FindsReader_tape_LShellHeap_Tape_ := hts (.fieldLink RX1 24 "ShellHeap$FindsReader" "tape" "LShellHeap$Tape;") (z_mc (z_ml z_m0))
  have hiX1 := show ∀ w ∈ u_ws RX1 TX1 6, w ∈ u_s_X1_passSign_59 from fun w h => z_mc (z_mr (z_ml h))
  have w__fieldLink_RX1_59_ShellHeap_Tape_sign_I_ := hts (.fieldLink RX1 59 "ShellHeap$Tape" "sign" "I") (z_mc (z_ml z_m1))
  have hiX10 := show ∀ w ∈ u_ws RX10 TX10 11, w ∈ u_s_X1_passSign_59 from fun w h => z_mc (z_mr (z_mr (z_ml h)))
  have hl := lv_entry ([.ref h0, .int 59]) (n := 2) (Nat.le_of_ble_eq_true rfl)
  rw [lg_entry_eq]
  generalize (lg_sl ([.ref h0, .int 59]) ++ List.replicate (2 - (lg_sl ([.ref h0, .int 59])).length) Slot.unset).toArray = ls at hl ⊢
  have hl : lv_has ls 2 [(0, .ref h0), (1, .int 59)] := hl
  refine lv_aload_n hx hb dX1_passSign_0 rfl (lv_at hl 0 rfl) ?_
  refine va_get (D := (dC, dI)) (ci := 1) (v := .ref a_tp) (C := RX1) (T := TX1) (N := 6) hx hb hts hiX1 hown hK hP 0 rfl rfl 0 (by decide) w__fieldLink_RX1_24_ShellHeap_FindsReader_tape_LShellHeap_Tape_ (fun _ h9 => h9) rfl dX1_passSign_1 ?_
  refine va_get (D := (dC, dI)) (ci := 10) (v := .int tg) (C := RX10) (T := TX10) (N := 11) hx hb hts hiX10 hown hK hP 1 rfl rfl 8 (by decide) w__fieldLink_RX1_59_ShellHeap_Tape_sign_I_ (fun _ h9 => h9) rfl dX1_passSign_4 ?_
  refine lv_iload_n hx hb dX1_passSign_7 rfl (lv_at hl 1 rfl) ?_
  refine lv_icmp_eq (tgt := 20) hx hb dX1_passSign_8 (by decide) (fun c_1 => ?_) (fun c_1 => ?_)
  · have k_2 : (tg).toInt = (59 : Int) := z_eq c_1
    refine lv_aload_n hx hb dX1_passSign_20 rfl (lv_at hl 0 rfl) ?_
    refine va_get (D := (dC, dI)) (ci := 1) (v := .ref a_tp) (C := RX1) (T := TX1) (N := 6) hx hb hts hiX1 hown hK hP 0 rfl rfl 0 (by decide) w__fieldLink_RX1_24_ShellHeap_FindsReader_tape_LShellHeap_Tape_ (fun _ h9 => h9) rfl dX1_passSign_21 ?_
    obtain ⟨hPc, hDc, hFc⟩ := z_sub3 (ws' := [(a_tp, .inr (10, [.ref a_tb, .int tt, .int ta, .int 1, .int tf, .int ts, .int te, .int to, .int tg, .int tx, .int ty])), (a_tb, .inl (ca_tb, 700, .inl fa_tb))]) hP hD hS hA [1, 2] (by decide) rfl
    have hKc := hK
    refine va_callv (va_runV (As := []) (rest := []) ⟨hx, hb, hml, hown, hts⟩ (s_X10_next3 l dC dI s.heap.size a_tp a_tb tt ta tf ts te to tg tx ty ca_tb fa_tb hB_tt hB_ta hB_tf hB_ts hB_te hI_a_tb (by first | omega | decide)) (cwV 0 hts gw_s_X1_passSign_59_s_X10_next3_62 rfl rfl rfl (by decide +kernel) ⟨Nat.le_of_ble_eq_true rfl, Nat.le_of_ble_eq_true rfl⟩) ⟨z_blind, va_recv hKc hPc (ci := 10) (q0 := 0) rfl rfl, z_pre hPc hKc hDc⟩ rfl rfl hl.1 rfl (lv_room (Nat.le_of_ble_eq_true rfl)) dX1_passSign_24 ⟨Nat.le_of_ble_eq_true rfl, Nat.le_of_ble_eq_true rfl⟩) hS (fun q _ h => hFc q h) hFc (fun u t H_3 locs ht hvm hw_5 hB hz1 hk1 hS => ?_)
    obtain ⟨n_h0_at_6, n_h0_start_7, n_h0_end_8, n_h0_sort_9, n_h0_sign_10, hp_11, hp_12, hp_13, hp_14, hp_15, hp_16, hp_17, hP1, hK1, hD1⟩ := hB
    rw [ht] at hP1
    have hK1 := va_K.moved hvm.symm hK1
    obtain ⟨hP, hD⟩ := z_ap_2 (va_join (wr := [(h0, .inr (1, [.ref a_tp, .ref a_pa, .int fn, .int fk, .int fs, .int fp])), (a_pa, .inr (5, [a_pa_0, a_pa_1, .ref a_fo, a_pa_3, a_pa_4, a_pa_5, a_pa_6, a_pa_7, a_pa_8, .int pk]))]) hP hD [1, 2] [0, 3] rfl rfl (by decide) (by decide) hk1 hFc hP1 hD1)
    have hp_14 : f_run f_bl fa_tb tt.toInt ta.toInt n_h0_start_7.toInt := hp_14
    have hp_15 : f_C fa_tb tt.toInt n_h0_sort_9.toInt n_h0_sign_10.toInt n_h0_start_7.toInt n_h0_end_8.toInt := hp_15
    have hp_16 : n_h0_at_6.toInt = n_h0_end_8.toInt ∧ n_h0_end_8.toInt ≤ tt.toInt ∧ n_h0_start_7.toInt ≤ n_h0_end_8.toInt := hp_16
    have hp_17 : f_pg n_h0_sort_9.toInt n_h0_start_7.toInt n_h0_end_8.toInt := hp_17
    clear hPc hDc hKc
    have hge_18 := hp_14.2.1
    have hlt_19 := f_tk_lt hC hpg (f_tk_sig hC (Or.inr (Or.inl ⟨(by first | omega | decide), rfl⟩))) (by decide)
    refine lv_iconst (v := 1) hx hb dX1_passSign_27 (by decide) ?_
    obtain ⟨hP9, hD9⟩ := z_sub2 (ws' := [(h0, .inr (1, [.ref a_tp, .ref a_pa, .int fn, .int fk, .int fs, .int fp])), (a_tp, .inr (10, [.ref a_tb, .int tt, .int n_h0_at_6, .int 1, .int tf, .int n_h0_start_7, .int n_h0_end_8, .int n_h0_sort_9, .int n_h0_sign_10, .int tx, .int ty])), (a_tb, .inl (ca_tb, 700, .inl fa_tb)), (a_pa, .inr (5, [a_pa_0, a_pa_1, .ref a_fo, a_pa_3, a_pa_4, a_pa_5, a_pa_6, a_pa_7, a_pa_8, .int pk]))]) hP hD [0, 2, 3, 1] (by decide) rfl
    have hK9 := hK.sub (tys' := []) [] rfl
    refine W.widen (k := 0) (n := 0) (Nat.le_of_ble_eq_true rfl) (Nat.le_of_ble_eq_true rfl) ?_
    exact W.zret (v := 1) hx hb hr (by rfl) (fun t ht hW => ⟨⟨1, 1, rfl, ⟨rfl, (Or.inl (⟨rfl, trivial⟩))⟩, ⟨n_h0_at_6, n_h0_start_7, n_h0_end_8, n_h0_sort_9, n_h0_sign_10, tx, ty, hp_11, hp_12, hp_13, (fun _ => (show (n_h0_at_6.toInt = n_h0_end_8.toInt ∧ n_h0_end_8.toInt ≤ tt.toInt ∧ n_h0_start_7.toInt ≤ n_h0_end_8.toInt ∧ ts.toInt + 1 ≤ n_h0_start_7.toInt) by omega)), (fun _ => (show f_C fa_tb tt.toInt n_h0_sort_9.toInt n_h0_sign_10.toInt n_h0_start_7.toInt n_h0_end_8.toInt from hp_15)), (fun _ => (show f_pg n_h0_sort_9.toInt n_h0_start_7.toInt n_h0_end_8.toInt from hp_17)), (fun _ => (show (f_E fa_tb tt.toInt pk.toInt 5 fp ts.toInt ↔ f_E fa_tb tt.toInt pk.toInt 6 0 n_h0_start_7.toInt) from (f_E5s (f_tk_sig hC (Or.inr (Or.inl ⟨(by first | omega | decide), rfl⟩))) rfl).trans (f_E_sk hp_14 (by omega)))), (fun h9 => absurd h9 (by decide)), by rw [ht]; exact hP9, va_K.moved hW.alike hK9, hD9⟩⟩, hS.F ht⟩) hS.2.2 dX1_passSign_28
  · have k_20 : (tg).toInt ≠ (59 : Int) := z_ne c_1
    refine lv_aload_n hx hb dX1_passSign_11 rfl (lv_at hl 0 rfl) ?_
    refine va_get (D := (dC, dI)) (ci := 1) (v := .ref a_tp) (C := RX1) (T := TX1) (N := 6) hx hb hts hiX1 hown hK hP 0 rfl rfl 0 (by decide) w__fieldLink_RX1_24_ShellHeap_FindsReader_tape_LShellHeap_Tape_ (fun _ h9 => h9) rfl dX1_passSign_12 ?_
    refine lv_iconst (v := 1) hx hb dX1_passSign_15 (by decide) ?_
    obtain ⟨hPc, hDc, hFc⟩ := z_sub3 (ws' := [(a_tp, .inr (10, [.ref a_tb, .int tt, .int ta, .int 1, .int tf, .int ts, .int te, .int to, .int tg, .int tx, .int ty]))]) hP hD hS hA [1] (by decide) rfl
    have hKc := hK.sub (tys' := []) [] rfl
    refine va_calli (va_runV (As := [.int 1]) (rest := []) ⟨hx, hb, hml, hown, hts⟩ (s_X10_fail l dC dI s.heap.size a_tp 1 (.ref a_tb) (.int tt) (.int ta) (.int 1) (.int tf) ts (.int te) (.int to) (.int tg) tx ty hB_ts) (cwV 1 hts gw_s_X1_passSign_59_s_X10_fail_55 rfl rfl rfl (by decide +kernel) ⟨Nat.le_of_ble_eq_true rfl, Nat.le_of_ble_eq_true rfl⟩) ⟨z_blind, va_recv hKc hPc (ci := 10) (q0 := 0) rfl rfl, z_pre hPc hKc hDc⟩ rfl rfl hl.1 rfl (lv_room (Nat.le_of_ble_eq_true rfl)) dX1_passSign_16 ⟨Nat.le_of_ble_eq_true rfl, Nat.le_of_ble_eq_true rfl⟩) hS (fun q _ h => hFc q h) hFc (fun r_22 u t H_21 locs ht hvm hw_23 hB hz1 hk1 hS => ?_)
    obtain ⟨n_h0_faultSort_24, n_h0_faultPlace_25, hP1, hK1, hD1⟩ := hB
    rw [ht] at hP1
    have hK1 := va_K.moved hvm.symm hK1
    obtain ⟨hP, hD⟩ := z_ap_3 (va_join (wr := [(h0, .inr (1, [.ref a_tp, .ref a_pa, .int fn, .int fk, .int fs, .int fp])), (a_tb, .inl (ca_tb, 700, .inl fa_tb)), (a_pa, .inr (5, [a_pa_0, a_pa_1, .ref a_fo, a_pa_3, a_pa_4, a_pa_5, a_pa_6, a_pa_7, a_pa_8, .int pk]))]) hP hD [1] [0, 2, 3] rfl rfl (by decide) (by decide) hk1 hFc hP1 hD1)
    clear hPc hDc hKc
    obtain rfl : r_22 = 0 := hw_23
    obtain ⟨hP9, hD9⟩ := z_sub2 (ws' := [(h0, .inr (1, [.ref a_tp, .ref a_pa, .int fn, .int fk, .int fs, .int fp])), (a_tp, .inr (10, [.ref a_tb, .int tt, .int ta, .int 1, .int tf, .int ts, .int te, .int to, .int tg, .int n_h0_faultSort_24, .int n_h0_faultPlace_25])), (a_tb, .inl (ca_tb, 700, .inl fa_tb)), (a_pa, .inr (5, [a_pa_0, a_pa_1, .ref a_fo, a_pa_3, a_pa_4, a_pa_5, a_pa_6, a_pa_7, a_pa_8, .int pk]))]) hP hD [0, 3, 1, 2] (by decide) rfl
    have hK9 := hK.sub (tys' := []) [] rfl
    refine W.widen (k := 0) (n := 0) (Nat.le_of_ble_eq_true rfl) (Nat.le_of_ble_eq_true rfl) ?_
    exact W.zret (v := 0) hx hb hr (by rfl) (fun t ht hW => ⟨⟨0, 0, rfl, ⟨rfl, (Or.inr (⟨rfl, trivial⟩))⟩, ⟨ta, ts, te, to, tg, n_h0_faultSort_24, n_h0_faultPlace_25, hB_ta, hB_ts, hB_te, (fun h9 => absurd h9 (by decide)), (fun h9 => absurd h9 (by decide)), (fun h9 => absurd h9 (by decide)), (fun h9 => absurd h9 (by decide)), (fun _ => (show ¬ f_E fa_tb tt.toInt pk.toInt 5 fp ts.toInt from f_E5x (fun k8 v8 b8 ht8 => ⟨f_tk_endn hC (by omega) ht8, f_tk_sign (kk := 6) hC (Or.inr (Or.inl ⟨(by omega), rfl⟩)) ht8, f_tk_sign (kk := 7) hC (Or.inr (Or.inr ⟨by omega, rfl⟩)) ht8⟩))), by rw [ht]; exact hP9, va_K.moved hW.alike hK9, hD9⟩⟩, hS.F ht⟩) hS.2.2 dX1_passSign_19
def u_s_X1_readPart3 : List Cond := .code yX1_readPart cX1_readPart 3 (some .boolean) :: ([.fieldLink RX1 24 "ShellHeap$FindsReader" "tape" "LShellHeap$Tape;", .methodLink RX1 83 yX10_wordIn, .instanceMethod yX10_wordIn, .selects RX10 yX10_wordIn yX10_wordIn, .initialized RX10, .fieldLink RX1 21 "ShellHeap$FindsReader" "toldParts" "I", .methodLink RX1 62 yX10_next, .instanceMethod yX10_next, .selects RX10 yX10_next yX10_next, .fieldLink RX1 48 "ShellHeap$Tape" "sort" "I", .fieldLink RX1 87 "ShellHeap$Tape" "start" "I", .methodLink RX1 90 yX10_numberFrom, .instanceMethod yX10_numberFrom, .selects RX10 yX10_numberFrom yX10_numberFrom, .fieldLink RX1 28 "ShellHeap$FindsReader" "pantry" "LShellHeap$Pantry;", .fieldLink RX1 9 "ShellHeap$FindsReader" "note" "I", .fieldLink RX1 15 "ShellHeap$FindsReader" "kind" "I", .fieldLink RX1 18 "ShellHeap$FindsReader" "sieve" "I", .methodLink RX1 94 yX5_add, .instanceMethod yX5_add, .selects RX5 yX5_add yX5_add, .initialized RX5, .methodLink RX1 55 yX10_fail, .instanceMethod yX10_fail, .selects RX10 yX10_fail yX10_fail] ++ (wsX10 ++ (wsX100 ++ (u_s_X10_wordIn3 ++ (u_s_X10_next3 ++ (u_s_X10_numberFrom3 ++ (u_s_X5_add ++ (u_s_X10_fail ++ []))))))))
theorem gd_s_X1_readPart3 : z_gd u_s_X1_readPart3 := z_gdc (by decide +kernel) (z_gda gdX1 (z_gda gdX10 (z_gda gd_s_X10_wordIn3 (z_gda gd_s_X10_next3 (z_gda gd_s_X10_numberFrom3 (z_gda gd_s_X5_add (z_gda gd_s_X10_fail (z_gd0))))))))
set_option maxRecDepth 20000 in
theorem gw_s_X1_readPart3_s_X10_wordIn3_83 : GoodIn u_s_X1_readPart3 (wsV RX1 83 RX10 yX10_wordIn u_s_X10_wordIn3) := z_gV (z_gr _ [2, 3, 4, 5] rfl (by decide +kernel)) (fun w h => ⟨z_mc (z_mr (z_mr (z_mr (z_ml h)))), gd_s_X10_wordIn3 w h⟩)
set_option maxRecDepth 20000 in
theorem gw_s_X1_readPart3_s_X10_next3_62 : GoodIn u_s_X1_readPart3 (wsV RX1 62 RX10 yX10_next u_s_X10_next3) := z_gV (z_gr _ [7, 8, 9, 5] rfl (by decide +kernel)) (fun w h => ⟨z_mc (z_mr (z_mr (z_mr (z_mr (z_ml h))))), gd_s_X10_next3 w h⟩)
set_option maxRecDepth 20000 in
theorem gw_s_X1_readPart3_s_X10_numberFrom3_90 : GoodIn u_s_X1_readPart3 (wsV RX1 90 RX10 yX10_numberFrom u_s_X10_numberFrom3) := z_gV (z_gr _ [12, 13, 14, 5] rfl (by decide +kernel)) (fun w h => ⟨z_mc (z_mr (z_mr (z_mr (z_mr (z_mr (z_ml h)))))), gd_s_X10_numberFrom3 w h⟩)
set_option maxRecDepth 20000 in
theorem gw_s_X1_readPart3_s_X5_add_94 : GoodIn u_s_X1_readPart3 (wsV RX1 94 RX5 yX5_add u_s_X5_add) := z_gV (z_gr _ [19, 20, 21, 22] rfl (by decide +kernel)) (fun w h => ⟨z_mc (z_mr (z_mr (z_mr (z_mr (z_mr (z_mr (z_ml h))))))), gd_s_X5_add w h⟩)
set_option maxRecDepth 20000 in
theorem gw_s_X1_readPart3_s_X10_fail_55 : GoodIn u_s_X1_readPart3 (wsV RX1 55 RX10 yX10_fail u_s_X10_fail) := z_gV (z_gr _ [23, 24, 25, 5] rfl (by decide +kernel)) (fun w h => ⟨z_mc (z_mr (z_mr (z_mr (z_mr (z_mr (z_mr (z_mr (z_ml h)))))))), gd_s_X10_fail w h⟩)
set_option maxHeartbeats 4000000 in
set_option maxRecDepth 100000 in
theorem s_X1_readPart3 (l : Launch) (dC : Nat → ClassId) (dI : Nat → Nat → Nat) (sz : Nat) (sd : Nat → Nat) (sv : Nat → Nat) (sf : Value) (h0 : Nat) (a_tp : Nat) (a_pa : Nat) (fn : Int32) (fk : Int32) (fs : Int32) (fp : Int32) (a_tb : Nat) (tt : Int32) (ta : Int32) (tf : Int32) (ts : Int32) (te : Int32) (to : Int32) (tg : Int32) (tx : Int32) (ty : Int32) (ca_tb : ClassId) (fa_tb : Nat → Int32) (a_pa_0 : Value) (a_pa_1 : Value) (a_fo : Nat) (a_pa_3 : Value) (a_pa_4 : Value) (a_pa_5 : Value) (a_pa_6 : Value) (a_pa_7 : Value) (a_pa_8 : Value) (pk : Int32) (ca_fo : ClassId) (fa_fo : Nat → Int32) (hB_tt : ((0 : Int) ≤ (tt).toInt ∧ (tt).toInt ≤ (700 : Int))) (hB_ta : ((0 : Int) ≤ (ta).toInt ∧ (ta).toInt ≤ (700 : Int))) (hB_tf : ((0 : Int) ≤ (tf).toInt ∧ (tf).toInt ≤ (700 : Int))) (hB_ts : ((0 : Int) ≤ (ts).toInt ∧ (ts).toInt ≤ (700 : Int))) (hB_te : ((0 : Int) ≤ (te).toInt ∧ (te).toInt ≤ (700 : Int))) (hB_fn : ((0 : Int) ≤ (fn).toInt ∧ (fn).toInt ≤ (79 : Int))) (hB_fk : ((0 : Int) ≤ (fk).toInt ∧ (fk).toInt ≤ (5 : Int))) (hB_fs : ((0 : Int) ≤ (fs).toInt ∧ (fs).toInt ≤ (3 : Int))) (hB_pk : ((0 : Int) ≤ (pk).toInt ∧ (pk).toInt ≤ (6 : Int))) (hI_a_tb : ∀ j : Nat, ((0 : Int) ≤ (fa_tb j).toInt ∧ (fa_tb j).toInt ≤ (255 : Int))) (hC : f_C fa_tb tt.toInt to.toInt tg.toInt ts.toInt te.toInt) (hpg : f_pg to.toInt ts.toInt te.toInt) (hat : ta.toInt = te.toInt ∧ te.toInt ≤ tt.toInt ∧ ts.toInt ≤ te.toInt) : Met l yX1_readPart u_s_X1_readPart3 ({ frames := 5, cells := 0, slots := 0, locals := 111 }) (va_Pc [.ref h0] (z_CS (dC, dI) vwCl [(h0, .inr (1, [.ref a_tp, .ref a_pa, .int fn, .int fk, .int fs, .int fp])), (a_tp, .inr (10, [.ref a_tb, .int tt, .int ta, .int 1, .int tf, .int ts, .int te, .int to, .int tg, .int tx, .int ty])), (a_tb, .inl (ca_tb, 700, .inl fa_tb)), (a_pa, .inr (5, [a_pa_0, a_pa_1, .ref a_fo, a_pa_3, a_pa_4, a_pa_5, a_pa_6, a_pa_7, a_pa_8, .int pk])), (a_fo, .inl (ca_fo, 11520, .inl fa_fo))] [(ca_tb, .int), (ca_fo, .int)] sz sd sv sf [(h0, .inr (1, [.ref a_tp, .ref a_pa, .int fn, .int fk, .int fs, .int fp])), (a_tp, .inr (10, [.ref a_tb, .int tt, .int ta, .int 1, .int tf, .int ts, .int te, .int to, .int tg, .int tx, .int ty])), (a_tb, .inl (ca_tb, 700, .inl fa_tb)), (a_pa, .inr (5, [a_pa_0, a_pa_1, .ref a_fo, a_pa_3, a_pa_4, a_pa_5, a_pa_6, a_pa_7, a_pa_8, .int pk])), (a_fo, .inl (ca_fo, 11520, .inl fa_fo))])) (va_Qi (fun (r : Int32) (u : Int32) => r = u ∧ ((r = 1 ∧ True) ∨ (r = 0 ∧ True))) (fun (u : Int32) (t : State) => ∃ (n_h0_toldParts : Int32), ∃ (n_a_tp_at : Int32), ∃ (n_a_tp_start : Int32), ∃ (n_a_tp_end : Int32), ∃ (n_a_tp_sort : Int32), ∃ (n_a_tp_sign : Int32), ∃ (n_a_tp_faultSort : Int32), ∃ (n_a_tp_faultPlace : Int32), ∃ (g_a_fo : Nat → Int32), ((0 : Int) ≤ (n_a_tp_at).toInt ∧ (n_a_tp_at).toInt ≤ (700 : Int)) ∧ ((0 : Int) ≤ (n_a_tp_start).toInt ∧ (n_a_tp_start).toInt ≤ (700 : Int)) ∧ ((0 : Int) ≤ (n_a_tp_end).toInt ∧ (n_a_tp_end).toInt ≤ (700 : Int)) ∧ (u = 1 → (n_a_tp_at.toInt = n_a_tp_end.toInt ∧ n_a_tp_end.toInt ≤ tt.toInt ∧ n_a_tp_start.toInt ≤ n_a_tp_end.toInt ∧ ts.toInt + 1 ≤ n_a_tp_start.toInt)) ∧ (u = 1 → f_C fa_tb tt.toInt n_a_tp_sort.toInt n_a_tp_sign.toInt n_a_tp_start.toInt n_a_tp_end.toInt) ∧ (u = 1 → f_pg n_a_tp_sort.toInt n_a_tp_start.toInt n_a_tp_end.toInt) ∧ (u = 1 → (f_E fa_tb tt.toInt pk.toInt 3 fp ts.toInt ↔ f_E fa_tb tt.toInt pk.toInt 5 n_h0_toldParts n_a_tp_start.toInt)) ∧ (u = 0 → ¬ f_E fa_tb tt.toInt pk.toInt 3 fp ts.toInt) ∧ (u = 1 → (ts.toInt + 2 ≤ n_a_tp_start.toInt)) ∧ va_P (dC, dI) vwCl [(h0, .inr (1, [.ref a_tp, .ref a_pa, .int fn, .int fk, .int fs, .int n_h0_toldParts])), (a_tp, .inr (10, [.ref a_tb, .int tt, .int n_a_tp_at, .int 1, .int tf, .int n_a_tp_start, .int n_a_tp_end, .int n_a_tp_sort, .int n_a_tp_sign, .int n_a_tp_faultSort, .int n_a_tp_faultPlace])), (a_tb, .inl (ca_tb, 700, .inl fa_tb)), (a_pa, .inr (5, [a_pa_0, a_pa_1, .ref a_fo, a_pa_3, a_pa_4, a_pa_5, a_pa_6, a_pa_7, a_pa_8, .int pk])), (a_fo, .inl (ca_fo, 11520, .inl g_a_fo))] t.heap ∧ va_K (dC, dI) vwCl [] t ∧ va_D (va_A [(h0, .inr (1, [.ref a_tp, .ref a_pa, .int fn, .int fk, .int fs, .int fp])), (a_tp, .inr (10, [.ref a_tb, .int tt, .int ta, .int 1, .int tf, .int ts, .int te, .int to, .int tg, .int tx, .int ty])), (a_tb, .inl (ca_tb, 700, .inl fa_tb)), (a_pa, .inr (5, [a_pa_0, a_pa_1, .ref a_fo, a_pa_3, a_pa_4, a_pa_5, a_pa_6, a_pa_7, a_pa_8, .int pk])), (a_fo, .inl (ca_fo, 11520, .inl fa_fo))] sz) [(h0, .inr (1, [.ref a_tp, .ref a_pa, .int fn, .int fk, .int fs, .int n_h0_toldParts])), (a_tp, .inr (10, [.ref a_tb, .int tt, .int n_a_tp_at, .int 1, .int tf, .int n_a_tp_start, .int n_a_tp_end, .int n_a_tp_sort, .int n_a_tp_sign, .int n_a_tp_faultSort, .int n_a_tp_faultPlace])), (a_tb, .inl (ca_tb, 700, .inl fa_tb)), (a_pa, .inr (5, [a_pa_0, a_pa_1, .ref a_fo, a_pa_3, a_pa_4, a_pa_5, a_pa_6, a_pa_7, a_pa_8, .int pk])), (a_fo, .inl (ca_fo, 11520, .inl g_a_fo))]) (va_A [(h0, .inr (1, [.ref a_tp, .ref a_pa, .int fn, .int fk, .int fs, .int fp])), (a_tp, .inr (10, [.ref a_tb, .int tt, .int ta, .int 1, .int tf, .int ts, .int te, .int to, .int tg, .int tx, .int ty])), (a_tb, .inl (ca_tb, 700, .inl fa_tb)), (a_pa, .inr (5, [a_pa_0, a_pa_1, .ref a_fo, a_pa_3, a_pa_4, a_pa_5, a_pa_6, a_pa_7, a_pa_8, .int pk])), (a_fo, .inl (ca_fo, 11520, .inl fa_fo))] sz)) 0 0 (va_A [(h0, .inr (1, [.ref a_tp, .ref a_pa, .int fn, .int fk, .int fs, .int fp])), (a_tp, .inr (10, [.ref a_tb, .int tt, .int ta, .int 1, .int tf, .int ts, .int te, .int to, .int tg, .int tx, .int ty])), (a_tb, .inl (ca_tb, 700, .inl fa_tb)), (a_pa, .inr (5, [a_pa_0, a_pa_1, .ref a_fo, a_pa_3, a_pa_4, a_pa_5, a_pa_6, a_pa_7, a_pa_8, .int pk])), (a_fo, .inl (ca_fo, 11520, .inl fa_fo))] sz) := by
  refine Met.ofW (cc := cX1_readPart) (maxL := 3) (ret := (some .boolean)) (by decide) rfl ?_
  intro p e s m args below meth c s₁ B hml hv
  obtain ⟨rfl, ⟨hsz, hP, hK, hD0⟩, hST⟩ := hv
  have hx := B.exec
  have hb := B.bytes
  have hr := B.returns
  have hts := atoms_spec (ws := u_s_X1_readPart3) B.pre
  have hown : s.vm.findClass RX1 = some m.cls := findClass_of_methodNamed B.named
  have hlocks := B.notSynchronized
  subst hsz
  have hD := hD0.self (sz := s.heap.size)
  generalize hAe : va_A [(h0, .inr (1, [.ref a_tp, .ref a_pa, .int fn, .int fk, .int fs, .int fp])), (a_tp, .inr (10, [.ref a_tb, .int tt, .int ta, .int 1, .int tf, .int ts, .int te, .int to, .int tg, .int tx, .int ty])), (a_tb, .inl (ca_tb, 700, .inl fa_tb)), (a_pa, .inr (5, [a_pa_0, a_pa_1, .ref a_fo, a_pa_3, a_pa_4, a_pa_5, a_pa_6, a_pa_7, a_pa_8, .int pk])), (a_fo, .inl (ca_fo, 11520, .inl fa_fo))] s.heap.size = A at hD hST ⊢
  have hA : ∀ q : Nat, s.heap.size ≤ q → A q := fun q h => by rw [← hAe]; exact Or.inr h
  have hS : va_S A s.heap s.heap [] := va_S.rf
  have hP : va_P (dC, dI) vwCl [(h0, .inr (1, [.ref a_tp, .ref a_pa, .int fn, .int fk, .int fs, .int fp])), (a_tp, .inr (10, [.ref a_tb, .int tt, .int ta, .int 1, .int tf, .int ts, .int te, .int to, .int tg, .int tx, .int ty])), (a_tb, .inl (ca_tb, 700, .inl fa_tb)), (a_pa, .inr (5, [a_pa_0, a_pa_1, .ref a_fo, a_pa_3, a_pa_4, a_pa_5, a_pa_6, a_pa_7, a_pa_8, .int pk])), (a_fo, .inl (ca_fo, 11520, .inl fa_fo))] s.heap := hP
  have w__fieldLink_RX1_24_ShellHeap_FindsReader_tape_LShellHeap_Tape_ := hts (.fieldLink RX1 24 "ShellHeap$FindsReader" "tape" "LShellHeap$Tape;") (z_mc (z_ml z_m0))
  have hiX1 := show ∀ w ∈ u_ws RX1 TX1 6, w ∈ u_s_X1_readPart3 from fun w h => z_mc (z_mr (z_ml h))
  have w__fieldLink_RX1_21_ShellHeap_FindsReader_toldParts_I_ := hts (.fieldLink RX1 21 "ShellHeap$FindsReader" "toldParts" "I") (z_mc (z_ml z_m5))
  have w__fieldLink_RX1_48_ShellHeap_Tape_sort_I_ := hts (.fieldLink RX1 48 "ShellHeap$Tape" "sort" "I") (z_mc (z_ml z_m9))
  have hiX10 := show ∀ w ∈ u_ws RX10 TX10 11, w ∈ u_s_X1_readPart3 from fun w h => z_mc (z_mr (z_mr (z_ml h)))
  have w__fieldLink_RX1_87_ShellHeap_Tape_start_I_ := hts (.fieldLink RX1 87 "ShellHeap$Tape" "start" "I") (z_mc (z_ml z_m10))
  have w__fieldLink_RX1_28_ShellHeap_FindsReader_pantry_LShellHeap_Pantry_ := hts (.fieldLink RX1 28 "ShellHeap$FindsReader" "pantry" "LShellHeap$Pantry;") (z_mc (z_ml z_m14))
  have w__fieldLink_RX1_9_ShellHeap_FindsReader_note_I_ := hts (.fieldLink RX1 9 "ShellHeap$FindsReader" "note" "I") (z_mc (z_ml z_m15))
  have w__fieldLink_RX1_15_ShellHeap_FindsReader_kind_I_ := hts (.fieldLink RX1 15 "ShellHeap$FindsReader" "kind" "I") (z_mc (z_ml z_m16))
  have w__fieldLink_RX1_18_ShellHeap_FindsReader_sieve_I_ := hts (.fieldLink RX1 18 "ShellHeap$FindsReader" "sieve" "I") (z_mc (z_ml z_m17))
  have hl := lv_entry ([.ref h0]) (n := 3) (Nat.le_of_ble_eq_true rfl)
  rw [lg_entry_eq]
  generalize (lg_sl ([.ref h0]) ++ List.replicate (3 - (lg_sl ([.ref h0])).length) Slot.unset).toArray = ls at hl ⊢
  have hl : lv_has ls 3 [(0, .ref h0)] := hl
  refine lv_aload_n hx hb dX1_readPart_0 rfl (lv_at hl 0 rfl) ?_
  refine va_get (D := (dC, dI)) (ci := 1) (v := .ref a_tp) (C := RX1) (T := TX1) (N := 6) hx hb hts hiX1 hown hK hP 0 rfl rfl 0 (by decide) w__fieldLink_RX1_24_ShellHeap_FindsReader_tape_LShellHeap_Tape_ (fun _ h9 => h9) rfl dX1_readPart_1 ?_
  refine va_ldcS hx hb hown hST.2.2.2.1 dX1_readPart_4 ?_
  obtain ⟨hPc, hDc⟩ := z_sub2 (ws' := [(a_tp, .inr (10, [.ref a_tb, .int tt, .int ta, .int 1, .int tf, .int ts, .int te, .int to, .int tg, .int tx, .int ty])), (a_tb, .inl (ca_tb, 700, .inl fa_tb))]) hP hD [1, 2] (by decide) rfl
  have hKc := hK.sub (tys' := [(ca_tb, .int)]) [0] rfl
  have hFc := va_free (ws := []) (wc := []) (z_D0 _) hS hA [] rfl
  refine va_calli (va_runV (As := [.ref (sd 0)]) (rest := []) ⟨hx, hb, hml, hown, hts⟩ (s_X10_wordIn3 l dC dI s.heap.size sd sv sf 0 a_tp a_tb tt (.int ta) (.int 1) (.int tf) ts te to tg (.int tx) (.int ty) ca_tb fa_tb hB_tt hB_ts hB_te hI_a_tb (by decide) rfl hC (by first | omega | decide)) (cwV 1 hts gw_s_X1_readPart3_s_X10_wordIn3_83 rfl rfl rfl (by decide +kernel) ⟨Nat.le_of_ble_eq_true rfl, Nat.le_of_ble_eq_true rfl⟩) ⟨z_blindS, va_recv hKc hPc (ci := 10) (q0 := 0) rfl rfl, z_preS hPc hKc hDc ((hST.kept hS.2.1).narrow hFc)⟩ rfl rfl hl.1 rfl (lv_room (Nat.le_of_ble_eq_true rfl)) dX1_readPart_6 ⟨Nat.le_of_ble_eq_true rfl, Nat.le_of_ble_eq_true rfl⟩) hS (fun q _ h => hFc q h) hFc (fun r_2 u t H_1 locs ht hvm hw_3 hB hz1 hk1 hS => ?_)
  replace hP := z_pure hP hk1
  clear hPc hDc hKc
  refine lv_istore_n (lv' := [(1, .int r_2), (0, .ref h0)]) hx hb dX1_readPart_9 rfl hl (by decide) rfl (fun ls hl => ?_)
  refine lv_iload_n hx hb dX1_readPart_10 rfl (lv_at hl 0 rfl) ?_
  refine lv_iconst (v := (-1)) hx hb dX1_readPart_11 (by decide) ?_
  refine lv_icmp_ne (tgt := 24) hx hb dX1_readPart_12 (by decide) (fun c_4 => ?_) (fun c_4 => ?_)
  · have k_5 : (r_2).toInt ≠ (-1 : Int) := z_ne c_4
    have hwy_6 := f_wiA_y hw_3.2 (by omega)
    refine lv_aload_n hx hb dX1_readPart_24 rfl (lv_at hl 1 rfl) ?_
    refine va_get (D := (dC, dI)) (ci := 1) (v := .int fp) (C := RX1) (T := TX1) (N := 6) hx hb hts hiX1 hown hK hP 0 rfl rfl 5 (by decide) w__fieldLink_RX1_21_ShellHeap_FindsReader_toldParts_I_ (fun _ h9 => h9) rfl dX1_readPart_25 ?_
    refine lv_iload_n hx hb dX1_readPart_28 rfl (lv_at hl 0 rfl) ?_
    refine lv_ishr hx hb dX1_readPart_29 ?_
    refine lv_topi (fun z_7 ez_7 => ?_)
    refine lv_iconst (v := 1) hx hb dX1_readPart_30 (by decide) ?_
    refine lv_iand hx hb dX1_readPart_31 ?_
    refine lv_topi (fun z_8 ez_8 => ?_)
    have kz_8 : (0 : Int) ≤ (z_8).toInt ∧ (z_8).toInt ≤ (1 : Int) := by rw [ez_8]; exact z_and _ 1 (by decide) (by decide)
    refine lv_if_eq (tgt := 44) hx hb dX1_readPart_32 (by decide) (fun c_9 => ?_) (fun c_9 => ?_)
    · have k_10 : (z_8).toInt = (0 : Int) := z_eq c_9
      obtain rfl : z_8 = 0 := z_eq' (show (z_8).toInt = (0 : Int) by omega)
      refine lv_aload_n hx hb dX1_readPart_44 rfl (lv_at hl 1 rfl) ?_
      refine lv_dup hx hb dX1_readPart_45 rfl ?_
      refine va_get (D := (dC, dI)) (ci := 1) (v := .int fp) (C := RX1) (T := TX1) (N := 6) hx hb hts hiX1 hown hK hP 0 rfl rfl 5 (by decide) w__fieldLink_RX1_21_ShellHeap_FindsReader_toldParts_I_ (fun _ h9 => h9) rfl dX1_readPart_46 ?_
      refine lv_iconst (v := 1) hx hb dX1_readPart_49 (by decide) ?_
      refine lv_iload_n hx hb dX1_readPart_50 rfl (lv_at hl 0 rfl) ?_
      refine lv_ishl hx hb dX1_readPart_51 ?_
      refine lv_topi (fun z_12 ez_12 => ?_)
      refine lv_ior hx hb dX1_readPart_52 ?_
      refine lv_topi (fun z_13 ez_13 => ?_)
      refine va_put (D := (dC, dI)) (ci := 1) (v := .int z_13) (ty := .int) (C := RX1) (T := TX1) (N := 6) hx hb hts hiX1 tyX1 tyX1_ok nmX1 hown hK hP hD hS 0 rfl rfl 5 (by decide) w__fieldLink_RX1_21_ShellHeap_FindsReader_toldParts_I_ (fun _ h9 => h9) rfl (by decide +kernel) rfl rfl (Nat.le_of_ble_eq_true rfl) dX1_readPart_53 (fun H_14 locs hP hD hS => ?_)
      obtain ⟨hP, hD⟩ := z_s_0_5 hP hD
      refine lv_aload_n hx hb dX1_readPart_56 rfl (lv_at hl 1 rfl) ?_
      refine va_get (D := (dC, dI)) (ci := 1) (v := .ref a_tp) (C := RX1) (T := TX1) (N := 6) hx hb hts hiX1 hown hK hP 0 rfl rfl 0 (by decide) w__fieldLink_RX1_24_ShellHeap_FindsReader_tape_LShellHeap_Tape_ (fun _ h9 => h9) rfl dX1_readPart_57 ?_
      obtain ⟨hPc, hDc, hFc⟩ := z_sub3 (ws' := [(a_tp, .inr (10, [.ref a_tb, .int tt, .int ta, .int 1, .int tf, .int ts, .int te, .int to, .int tg, .int tx, .int ty])), (a_tb, .inl (ca_tb, 700, .inl fa_tb))]) hP hD hS hA [1, 2] (by decide) rfl
      have hKc := hK.sub (tys' := [(ca_tb, .int)]) [0] rfl
      refine va_callv (va_runV (As := []) (rest := []) ⟨hx, hb, hml, hown, hts⟩ (s_X10_next3 l dC dI H_14.size a_tp a_tb tt ta tf ts te to tg tx ty ca_tb fa_tb hB_tt hB_ta hB_tf hB_ts hB_te hI_a_tb (by first | omega | decide)) (cwV 0 hts gw_s_X1_readPart3_s_X10_next3_62 rfl rfl rfl (by decide +kernel) ⟨Nat.le_of_ble_eq_true rfl, Nat.le_of_ble_eq_true rfl⟩) ⟨z_blind, va_recv hKc hPc (ci := 10) (q0 := 0) rfl rfl, z_pre hPc hKc hDc⟩ rfl rfl hl.1 rfl (lv_room (Nat.le_of_ble_eq_true rfl)) dX1_readPart_60 ⟨Nat.le_of_ble_eq_true rfl, Nat.le_of_ble_eq_true rfl⟩) hS (fun q _ h => hFc q h) hFc (fun u t H_15 locs ht hvm hw_17 hB hz1 hk1 hS => ?_)
      obtain ⟨n_h0_at_18, n_h0_start_19, n_h0_end_20, n_h0_sort_21, n_h0_sign_22, hp_23, hp_24, hp_25, hp_26, hp_27, hp_28, hp_29, hP1, hK1, hD1⟩ := hB
      rw [ht] at hP1
      have hK1 := va_K.moved hvm.symm hK1
      obtain ⟨hP, hD⟩ := z_ap_3 (va_join (wr := [(h0, .inr (1, [.ref a_tp, .ref a_pa, .int fn, .int fk, .int fs, .int z_13])), (a_pa, .inr (5, [a_pa_0, a_pa_1, .ref a_fo, a_pa_3, a_pa_4, a_pa_5, a_pa_6, a_pa_7, a_pa_8, .int pk])), (a_fo, .inl (ca_fo, 11520, .inl fa_fo))]) hP hD [1, 2] [0, 3, 4] rfl rfl (by decide) (by decide) hk1 hFc hP1 hD1)
      have hp_26 : f_run f_bl fa_tb tt.toInt ta.toInt n_h0_start_19.toInt := hp_26
      have hp_27 : f_C fa_tb tt.toInt n_h0_sort_21.toInt n_h0_sign_22.toInt n_h0_start_19.toInt n_h0_end_20.toInt := hp_27
      have hp_28 : n_h0_at_18.toInt = n_h0_end_20.toInt ∧ n_h0_end_20.toInt ≤ tt.toInt ∧ n_h0_start_19.toInt ≤ n_h0_end_20.toInt := hp_28
      have hp_29 : f_pg n_h0_sort_21.toInt n_h0_start_19.toInt n_h0_end_20.toInt := hp_29
      clear hPc hDc hKc
      have hge_30 := hp_26.2.1
      have hlt_31 := f_tk_lt hC hpg hwy_6.2.2 (by decide)
      have hE_32 : f_E fa_tb (tt).toInt (pk).toInt 3 fp (ts).toInt ↔ f_E fa_tb (tt).toInt (pk).toInt 4 z_13 (n_h0_start_19).toInt := by
        have h9 := f_E3 (kn := (pk).toInt) (t := fp) hwy_6.2.2 rfl (f_bit_no rfl (ez_8.trans (by rw [ez_7])) (by first | omega | decide))
        rw [show f_set fp (Int32.ofInt (r_2).toInt) = z_13 from f_set_of rfl (ez_13.trans (by rw [ez_12]))] at h9
        exact h9.trans (f_E_sk hp_26 (by omega))
      refine lv_aload_n hx hb dX1_readPart_63 rfl (lv_at hl 1 rfl) ?_
      refine va_get (D := (dC, dI)) (ci := 1) (v := .ref a_tp) (C := RX1) (T := TX1) (N := 6) hx hb hts hiX1 hown hK hP 0 rfl rfl 0 (by decide) w__fieldLink_RX1_24_ShellHeap_FindsReader_tape_LShellHeap_Tape_ (fun _ h9 => h9) rfl dX1_readPart_64 ?_
      refine va_get (D := (dC, dI)) (ci := 10) (v := .int n_h0_sort_21) (C := RX10) (T := TX10) (N := 11) hx hb hts hiX10 hown hK hP 3 rfl rfl 7 (by decide) w__fieldLink_RX1_48_ShellHeap_Tape_sort_I_ (fun _ h9 => h9) rfl dX1_readPart_67 ?_
      refine lv_iconst (v := 2) hx hb dX1_readPart_70 (by decide) ?_
      refine lv_icmp_eq (tgt := 83) hx hb dX1_readPart_71 (by decide) (fun c_33 => ?_) (fun c_33 => ?_)
      · have k_34 : (n_h0_sort_21).toInt = (2 : Int) := z_eq c_33
        obtain rfl : n_h0_sort_21 = 2 := z_eq' (show (n_h0_sort_21).toInt = (2 : Int) by omega)
        refine lv_aload_n hx hb dX1_readPart_83 rfl (lv_at hl 1 rfl) ?_
        refine va_get (D := (dC, dI)) (ci := 1) (v := .ref a_tp) (C := RX1) (T := TX1) (N := 6) hx hb hts hiX1 hown hK hP 0 rfl rfl 0 (by decide) w__fieldLink_RX1_24_ShellHeap_FindsReader_tape_LShellHeap_Tape_ (fun _ h9 => h9) rfl dX1_readPart_84 ?_
        refine lv_aload_n hx hb dX1_readPart_87 rfl (lv_at hl 1 rfl) ?_
        refine va_get (D := (dC, dI)) (ci := 1) (v := .ref a_tp) (C := RX1) (T := TX1) (N := 6) hx hb hts hiX1 hown hK hP 0 rfl rfl 0 (by decide) w__fieldLink_RX1_24_ShellHeap_FindsReader_tape_LShellHeap_Tape_ (fun _ h9 => h9) rfl dX1_readPart_88 ?_
        refine va_get (D := (dC, dI)) (ci := 10) (v := .int n_h0_start_19) (C := RX10) (T := TX10) (N := 11) hx hb hts hiX10 hown hK hP 3 rfl rfl 5 (by decide) w__fieldLink_RX1_87_ShellHeap_Tape_start_I_ (fun _ h9 => h9) rfl dX1_readPart_91 ?_
        have hnum_36 := f_tk_num hp_27 (by first | omega | decide)
        obtain ⟨hPc, hDc⟩ := z_sub2 (ws' := [(a_tp, .inr (10, [.ref a_tb, .int tt, .int n_h0_at_18, .int 1, .int tf, .int n_h0_start_19, .int n_h0_end_20, .int 2, .int n_h0_sign_22, .int tx, .int ty])), (a_tb, .inl (ca_tb, 700, .inl fa_tb))]) hP hD [3, 4] (by decide) rfl
        have hKc := hK.sub (tys' := [(ca_tb, .int)]) [0] rfl
        have hFc := va_free (ws := []) (wc := []) (z_D0 _) hS hA [] rfl
        refine va_calli (va_runV (As := [.int n_h0_start_19]) (rest := []) ⟨hx, hb, hml, hown, hts⟩ (s_X10_numberFrom3 l dC dI H_15.size a_tp n_h0_start_19 a_tb tt (.int n_h0_at_18) (.int 1) (.int tf) (.int n_h0_start_19) n_h0_end_20 (.int 2) (.int n_h0_sign_22) (.int tx) (.int ty) ca_tb fa_tb hB_tt hp_25 (z_bw hp_24 (by decide) (by decide)) hI_a_tb (f_run_pre hnum_36.1) (by first | omega | decide)) (cwV 1 hts gw_s_X1_readPart3_s_X10_numberFrom3_90 rfl rfl rfl (by decide +kernel) ⟨Nat.le_of_ble_eq_true rfl, Nat.le_of_ble_eq_true rfl⟩) ⟨z_blind, va_recv hKc hPc (ci := 10) (q0 := 0) rfl rfl, z_pre hPc hKc hDc⟩ rfl rfl hl.1 rfl (lv_room (Nat.le_of_ble_eq_true rfl)) dX1_readPart_94 ⟨Nat.le_of_ble_eq_true rfl, Nat.le_of_ble_eq_true rfl⟩) hS (fun q _ h => hFc q h) hFc (fun r_38 u t H_37 locs ht hvm hw_39 hB hz1 hk1 hS => ?_)
        replace hP := z_pure hP hk1
        clear hPc hDc hKc
        refine lv_istore_n (lv' := [(2, .int r_38), (1, .int r_2), (0, .ref h0)]) hx hb dX1_readPart_97 rfl hl (by decide) rfl (fun ls hl => ?_)
        refine lv_iload_n hx hb dX1_readPart_98 rfl (lv_at hl 0 rfl) ?_
        refine lv_sipush (v := 999) hx hb dX1_readPart_99 (by decide) ?_
        refine lv_icmp_le (tgt := 114) hx hb dX1_readPart_102 (by decide) (fun c_40 => ?_) (fun c_40 => ?_)
        · have k_41 : (r_38).toInt ≤ (999 : Int) := z_le c_40
          refine lv_aload_n hx hb dX1_readPart_114 rfl (lv_at hl 2 rfl) ?_
          refine va_get (D := (dC, dI)) (ci := 1) (v := .ref a_pa) (C := RX1) (T := TX1) (N := 6) hx hb hts hiX1 hown hK hP 0 rfl rfl 1 (by decide) w__fieldLink_RX1_28_ShellHeap_FindsReader_pantry_LShellHeap_Pantry_ (fun _ h9 => h9) rfl dX1_readPart_115 ?_
          refine lv_aload_n hx hb dX1_readPart_118 rfl (lv_at hl 2 rfl) ?_
          refine va_get (D := (dC, dI)) (ci := 1) (v := .int fn) (C := RX1) (T := TX1) (N := 6) hx hb hts hiX1 hown hK hP 0 rfl rfl 2 (by decide) w__fieldLink_RX1_9_ShellHeap_FindsReader_note_I_ (fun _ h9 => h9) rfl dX1_readPart_119 ?_
          refine lv_aload_n hx hb dX1_readPart_122 rfl (lv_at hl 2 rfl) ?_
          refine va_get (D := (dC, dI)) (ci := 1) (v := .int fk) (C := RX1) (T := TX1) (N := 6) hx hb hts hiX1 hown hK hP 0 rfl rfl 3 (by decide) w__fieldLink_RX1_15_ShellHeap_FindsReader_kind_I_ (fun _ h9 => h9) rfl dX1_readPart_123 ?_
          refine lv_aload_n hx hb dX1_readPart_126 rfl (lv_at hl 2 rfl) ?_
          refine va_get (D := (dC, dI)) (ci := 1) (v := .int fs) (C := RX1) (T := TX1) (N := 6) hx hb hts hiX1 hown hK hP 0 rfl rfl 4 (by decide) w__fieldLink_RX1_18_ShellHeap_FindsReader_sieve_I_ (fun _ h9 => h9) rfl dX1_readPart_127 ?_
          refine lv_iload_n hx hb dX1_readPart_130 rfl (lv_at hl 1 rfl) ?_
          refine lv_iload_n hx hb dX1_readPart_131 rfl (lv_at hl 0 rfl) ?_
          obtain ⟨hPc, hDc, hFc⟩ := z_sub3 (ws' := [(a_pa, .inr (5, [a_pa_0, a_pa_1, .ref a_fo, a_pa_3, a_pa_4, a_pa_5, a_pa_6, a_pa_7, a_pa_8, .int pk])), (a_fo, .inl (ca_fo, 11520, .inl fa_fo))]) hP hD hS hA [1, 2] (by decide) rfl
          have hKc := hK.sub (tys' := [(ca_fo, .int)]) [1] rfl
          refine va_callv (va_runV (As := [.int fn, .int fk, .int fs, .int r_2, .int r_38]) (rest := []) ⟨hx, hb, hml, hown, hts⟩ (s_X5_add l dC dI H_37.size a_pa fn fk fs r_2 r_38 a_pa_0 a_pa_1 a_fo a_pa_3 a_pa_4 a_pa_5 a_pa_6 a_pa_7 a_pa_8 (.int pk) ca_fo fa_fo hB_fn hB_fk hB_fs (by first | omega | decide)) (cwV 5 hts gw_s_X1_readPart3_s_X5_add_94 rfl rfl rfl (by decide +kernel) ⟨Nat.le_of_ble_eq_true rfl, Nat.le_of_ble_eq_true rfl⟩) ⟨z_blind, va_recv hKc hPc (ci := 5) (q0 := 0) rfl rfl, z_pre hPc hKc hDc⟩ rfl rfl hl.1 rfl (lv_room (Nat.le_of_ble_eq_true rfl)) dX1_readPart_132 ⟨Nat.le_of_ble_eq_true rfl, Nat.le_of_ble_eq_true rfl⟩) hS (fun q _ h => hFc q h) hFc (fun u t H_42 locs ht hvm hw_44 hB hz1 hk1 hS => ?_)
          obtain ⟨g_h1_45, hP1, hK1, hD1⟩ := hB
          rw [ht] at hP1
          have hK1 := va_K.moved hvm.symm hK1
          obtain ⟨hP, hD⟩ := z_ap_3 (va_join (wr := [(h0, .inr (1, [.ref a_tp, .ref a_pa, .int fn, .int fk, .int fs, .int z_13])), (a_tp, .inr (10, [.ref a_tb, .int tt, .int n_h0_at_18, .int 1, .int tf, .int n_h0_start_19, .int n_h0_end_20, .int 2, .int n_h0_sign_22, .int tx, .int ty])), (a_tb, .inl (ca_tb, 700, .inl fa_tb))]) hP hD [1, 2] [0, 3, 4] rfl rfl (by decide) (by decide) hk1 hFc hP1 hD1)
          clear hPc hDc hKc
          refine lv_aload_n hx hb dX1_readPart_135 rfl (lv_at hl 2 rfl) ?_
          refine va_get (D := (dC, dI)) (ci := 1) (v := .ref a_tp) (C := RX1) (T := TX1) (N := 6) hx hb hts hiX1 hown hK hP 0 rfl rfl 0 (by decide) w__fieldLink_RX1_24_ShellHeap_FindsReader_tape_LShellHeap_Tape_ (fun _ h9 => h9) rfl dX1_readPart_136 ?_
          obtain ⟨hPc, hDc, hFc⟩ := z_sub3 (ws' := [(a_tp, .inr (10, [.ref a_tb, .int tt, .int n_h0_at_18, .int 1, .int tf, .int n_h0_start_19, .int n_h0_end_20, .int 2, .int n_h0_sign_22, .int tx, .int ty])), (a_tb, .inl (ca_tb, 700, .inl fa_tb))]) hP hD hS hA [1, 2] (by decide) rfl
          have hKc := hK.sub (tys' := [(ca_tb, .int)]) [0] rfl
          refine va_callv (va_runV (As := []) (rest := []) ⟨hx, hb, hml, hown, hts⟩ (s_X10_next3 l dC dI H_42.size a_tp a_tb tt n_h0_at_18 tf n_h0_start_19 n_h0_end_20 2 n_h0_sign_22 tx ty ca_tb fa_tb hB_tt hp_23 hB_tf hp_24 hp_25 hI_a_tb (by first | omega | decide)) (cwV 0 hts gw_s_X1_readPart3_s_X10_next3_62 rfl rfl rfl (by decide +kernel) ⟨Nat.le_of_ble_eq_true rfl, Nat.le_of_ble_eq_true rfl⟩) ⟨z_blind, va_recv hKc hPc (ci := 10) (q0 := 0) rfl rfl, z_pre hPc hKc hDc⟩ rfl rfl hl.1 rfl (lv_room (Nat.le_of_ble_eq_true rfl)) dX1_readPart_139 ⟨Nat.le_of_ble_eq_true rfl, Nat.le_of_ble_eq_true rfl⟩) hS (fun q _ h => hFc q h) hFc (fun u t H_46 locs ht hvm hw_48 hB hz1 hk1 hS => ?_)
          obtain ⟨n_h0_at_49, n_h0_start_50, n_h0_end_51, n_h0_sort_52, n_h0_sign_53, hp_54, hp_55, hp_56, hp_57, hp_58, hp_59, hp_60, hP1, hK1, hD1⟩ := hB
          rw [ht] at hP1
          have hK1 := va_K.moved hvm.symm hK1
          obtain ⟨hP, hD⟩ := z_ap_3 (va_join (wr := [(h0, .inr (1, [.ref a_tp, .ref a_pa, .int fn, .int fk, .int fs, .int z_13])), (a_pa, .inr (5, [a_pa_0, a_pa_1, .ref a_fo, a_pa_3, a_pa_4, a_pa_5, a_pa_6, a_pa_7, a_pa_8, .int pk])), (a_fo, .inl (ca_fo, 11520, .inl g_h1_45))]) hP hD [1, 2] [0, 3, 4] rfl rfl (by decide) (by decide) hk1 hFc hP1 hD1)
          have hp_57 : f_run f_bl fa_tb tt.toInt n_h0_at_18.toInt n_h0_start_50.toInt := hp_57
          have hp_58 : f_C fa_tb tt.toInt n_h0_sort_52.toInt n_h0_sign_53.toInt n_h0_start_50.toInt n_h0_end_51.toInt := hp_58
          have hp_59 : n_h0_at_49.toInt = n_h0_end_51.toInt ∧ n_h0_end_51.toInt ≤ tt.toInt ∧ n_h0_start_50.toInt ≤ n_h0_end_51.toInt := hp_59
          have hp_60 : f_pg n_h0_sort_52.toInt n_h0_start_50.toInt n_h0_end_51.toInt := hp_60
          clear hPc hDc hKc
          have hge_61 := hp_57.2.1
          have hlt_62 := f_tk_lt hp_27 hp_29 hnum_36.2 (by decide)
          refine lv_iconst (v := 1) hx hb dX1_readPart_142 (by decide) ?_
          obtain ⟨hP9, hD9⟩ := z_sub2 (ws' := [(h0, .inr (1, [.ref a_tp, .ref a_pa, .int fn, .int fk, .int fs, .int z_13])), (a_tp, .inr (10, [.ref a_tb, .int tt, .int n_h0_at_49, .int 1, .int tf, .int n_h0_start_50, .int n_h0_end_51, .int n_h0_sort_52, .int n_h0_sign_53, .int tx, .int ty])), (a_tb, .inl (ca_tb, 700, .inl fa_tb)), (a_pa, .inr (5, [a_pa_0, a_pa_1, .ref a_fo, a_pa_3, a_pa_4, a_pa_5, a_pa_6, a_pa_7, a_pa_8, .int pk])), (a_fo, .inl (ca_fo, 11520, .inl g_h1_45))]) hP hD [0, 3, 4, 1, 2] (by decide) rfl
          have hK9 := hK.sub (tys' := []) [] rfl
          refine W.widen (k := 0) (n := 0) (Nat.le_of_ble_eq_true rfl) (Nat.le_of_ble_eq_true rfl) ?_
          exact W.zret (v := 1) hx hb hr (by rfl) (fun t ht hW => ⟨⟨1, 1, rfl, ⟨rfl, (Or.inl (⟨rfl, trivial⟩))⟩, ⟨z_13, n_h0_at_49, n_h0_start_50, n_h0_end_51, n_h0_sort_52, n_h0_sign_53, tx, ty, g_h1_45, hp_54, hp_55, hp_56, (fun _ => (show (n_h0_at_49.toInt = n_h0_end_51.toInt ∧ n_h0_end_51.toInt ≤ tt.toInt ∧ n_h0_start_50.toInt ≤ n_h0_end_51.toInt ∧ ts.toInt + 1 ≤ n_h0_start_50.toInt) by omega)), (fun _ => (show f_C fa_tb tt.toInt n_h0_sort_52.toInt n_h0_sign_53.toInt n_h0_start_50.toInt n_h0_end_51.toInt from hp_58)), (fun _ => (show f_pg n_h0_sort_52.toInt n_h0_start_50.toInt n_h0_end_51.toInt from hp_60)), (fun _ => (show (f_E fa_tb tt.toInt pk.toInt 3 fp ts.toInt ↔ f_E fa_tb tt.toInt pk.toInt 5 z_13 n_h0_start_50.toInt) from hE_32.trans ((f_E4 hnum_36.2 rfl (f_v4y hw_39.2 (by omega))).trans (f_E_sk hp_57 (by omega))))), (fun h9 => absurd h9 (by decide)), (fun _ => (show (ts.toInt + 2 ≤ n_h0_start_50.toInt) by omega)), by rw [ht]; exact hP9, va_K.moved hW.alike hK9, hD9⟩⟩, hS.F ht⟩) hS.2.2 dX1_readPart_143
        · have k_63 : (r_38).toInt > (999 : Int) := z_nle c_40
          refine lv_aload_n hx hb dX1_readPart_105 rfl (lv_at hl 2 rfl) ?_
          refine va_get (D := (dC, dI)) (ci := 1) (v := .ref a_tp) (C := RX1) (T := TX1) (N := 6) hx hb hts hiX1 hown hK hP 0 rfl rfl 0 (by decide) w__fieldLink_RX1_24_ShellHeap_FindsReader_tape_LShellHeap_Tape_ (fun _ h9 => h9) rfl dX1_readPart_106 ?_
          refine lv_iconst (v := 2) hx hb dX1_readPart_109 (by decide) ?_
          obtain ⟨hPc, hDc, hFc⟩ := z_sub3 (ws' := [(a_tp, .inr (10, [.ref a_tb, .int tt, .int n_h0_at_18, .int 1, .int tf, .int n_h0_start_19, .int n_h0_end_20, .int 2, .int n_h0_sign_22, .int tx, .int ty]))]) hP hD hS hA [3] (by decide) rfl
          have hKc := hK.sub (tys' := []) [] rfl
          refine va_calli (va_runV (As := [.int 2]) (rest := []) ⟨hx, hb, hml, hown, hts⟩ (s_X10_fail l dC dI H_37.size a_tp 2 (.ref a_tb) (.int tt) (.int n_h0_at_18) (.int 1) (.int tf) n_h0_start_19 (.int n_h0_end_20) (.int 2) (.int n_h0_sign_22) tx ty hp_24) (cwV 1 hts gw_s_X1_readPart3_s_X10_fail_55 rfl rfl rfl (by decide +kernel) ⟨Nat.le_of_ble_eq_true rfl, Nat.le_of_ble_eq_true rfl⟩) ⟨z_blind, va_recv hKc hPc (ci := 10) (q0 := 0) rfl rfl, z_pre hPc hKc hDc⟩ rfl rfl hl.1 rfl (lv_room (Nat.le_of_ble_eq_true rfl)) dX1_readPart_110 ⟨Nat.le_of_ble_eq_true rfl, Nat.le_of_ble_eq_true rfl⟩) hS (fun q _ h => hFc q h) hFc (fun r_65 u t H_64 locs ht hvm hw_66 hB hz1 hk1 hS => ?_)
          obtain ⟨n_h0_faultSort_67, n_h0_faultPlace_68, hP1, hK1, hD1⟩ := hB
          rw [ht] at hP1
          have hK1 := va_K.moved hvm.symm hK1
          obtain ⟨hP, hD⟩ := z_ap_4 (va_join (wr := [(h0, .inr (1, [.ref a_tp, .ref a_pa, .int fn, .int fk, .int fs, .int z_13])), (a_pa, .inr (5, [a_pa_0, a_pa_1, .ref a_fo, a_pa_3, a_pa_4, a_pa_5, a_pa_6, a_pa_7, a_pa_8, .int pk])), (a_fo, .inl (ca_fo, 11520, .inl fa_fo)), (a_tb, .inl (ca_tb, 700, .inl fa_tb))]) hP hD [3] [0, 1, 2, 4] rfl rfl (by decide) (by decide) hk1 hFc hP1 hD1)
          clear hPc hDc hKc
          obtain rfl : r_65 = 0 := hw_66
          obtain ⟨hP9, hD9⟩ := z_sub2 (ws' := [(h0, .inr (1, [.ref a_tp, .ref a_pa, .int fn, .int fk, .int fs, .int z_13])), (a_tp, .inr (10, [.ref a_tb, .int tt, .int n_h0_at_18, .int 1, .int tf, .int n_h0_start_19, .int n_h0_end_20, .int 2, .int n_h0_sign_22, .int n_h0_faultSort_67, .int n_h0_faultPlace_68])), (a_tb, .inl (ca_tb, 700, .inl fa_tb)), (a_pa, .inr (5, [a_pa_0, a_pa_1, .ref a_fo, a_pa_3, a_pa_4, a_pa_5, a_pa_6, a_pa_7, a_pa_8, .int pk])), (a_fo, .inl (ca_fo, 11520, .inl fa_fo))]) hP hD [0, 4, 3, 1, 2] (by decide) rfl
          have hK9 := hK.sub (tys' := []) [] rfl
          refine W.widen (k := 0) (n := 0) (Nat.le_of_ble_eq_true rfl) (Nat.le_of_ble_eq_true rfl) ?_
          exact W.zret (v := 0) hx hb hr (by rfl) (fun t ht hW => ⟨⟨0, 0, rfl, ⟨rfl, (Or.inr (⟨rfl, trivial⟩))⟩, ⟨z_13, n_h0_at_18, n_h0_start_19, n_h0_end_20, 2, n_h0_sign_22, n_h0_faultSort_67, n_h0_faultPlace_68, fa_fo, hp_23, hp_24, hp_25, (fun h9 => absurd h9 (by decide)), (fun h9 => absurd h9 (by decide)), (fun h9 => absurd h9 (by decide)), (fun h9 => absurd h9 (by decide)), (fun _ => (show ¬ f_E fa_tb tt.toInt pk.toInt 3 fp ts.toInt from f_not hE_32 (f_E4n hnum_36.2 (fun h9 => f_v4n hw_39.2 (by omega) h9.2)))), (fun h9 => absurd h9 (by decide)), by rw [ht]; exact hP9, va_K.moved hW.alike hK9, hD9⟩⟩, hS.F ht⟩) hS.2.2 dX1_readPart_113
      · have k_69 : (n_h0_sort_21).toInt ≠ (2 : Int) := z_ne c_33
        refine lv_aload_n hx hb dX1_readPart_74 rfl (lv_at hl 1 rfl) ?_
        refine va_get (D := (dC, dI)) (ci := 1) (v := .ref a_tp) (C := RX1) (T := TX1) (N := 6) hx hb hts hiX1 hown hK hP 0 rfl rfl 0 (by decide) w__fieldLink_RX1_24_ShellHeap_FindsReader_tape_LShellHeap_Tape_ (fun _ h9 => h9) rfl dX1_readPart_75 ?_
        refine lv_iconst (v := 1) hx hb dX1_readPart_78 (by decide) ?_
        obtain ⟨hPc, hDc, hFc⟩ := z_sub3 (ws' := [(a_tp, .inr (10, [.ref a_tb, .int tt, .int n_h0_at_18, .int 1, .int tf, .int n_h0_start_19, .int n_h0_end_20, .int n_h0_sort_21, .int n_h0_sign_22, .int tx, .int ty]))]) hP hD hS hA [3] (by decide) rfl
        have hKc := hK.sub (tys' := []) [] rfl
        refine va_calli (va_runV (As := [.int 1]) (rest := []) ⟨hx, hb, hml, hown, hts⟩ (s_X10_fail l dC dI H_15.size a_tp 1 (.ref a_tb) (.int tt) (.int n_h0_at_18) (.int 1) (.int tf) n_h0_start_19 (.int n_h0_end_20) (.int n_h0_sort_21) (.int n_h0_sign_22) tx ty hp_24) (cwV 1 hts gw_s_X1_readPart3_s_X10_fail_55 rfl rfl rfl (by decide +kernel) ⟨Nat.le_of_ble_eq_true rfl, Nat.le_of_ble_eq_true rfl⟩) ⟨z_blind, va_recv hKc hPc (ci := 10) (q0 := 0) rfl rfl, z_pre hPc hKc hDc⟩ rfl rfl hl.1 rfl (lv_room (Nat.le_of_ble_eq_true rfl)) dX1_readPart_79 ⟨Nat.le_of_ble_eq_true rfl, Nat.le_of_ble_eq_true rfl⟩) hS (fun q _ h => hFc q h) hFc (fun r_71 u t H_70 locs ht hvm hw_72 hB hz1 hk1 hS => ?_)
        obtain ⟨n_h0_faultSort_73, n_h0_faultPlace_74, hP1, hK1, hD1⟩ := hB
        rw [ht] at hP1
        have hK1 := va_K.moved hvm.symm hK1
        obtain ⟨hP, hD⟩ := z_ap_4 (va_join (wr := [(h0, .inr (1, [.ref a_tp, .ref a_pa, .int fn, .int fk, .int fs, .int z_13])), (a_pa, .inr (5, [a_pa_0, a_pa_1, .ref a_fo, a_pa_3, a_pa_4, a_pa_5, a_pa_6, a_pa_7, a_pa_8, .int pk])), (a_fo, .inl (ca_fo, 11520, .inl fa_fo)), (a_tb, .inl (ca_tb, 700, .inl fa_tb))]) hP hD [3] [0, 1, 2, 4] rfl rfl (by decide) (by decide) hk1 hFc hP1 hD1)
        clear hPc hDc hKc
        obtain rfl : r_71 = 0 := hw_72
        obtain ⟨hP9, hD9⟩ := z_sub2 (ws' := [(h0, .inr (1, [.ref a_tp, .ref a_pa, .int fn, .int fk, .int fs, .int z_13])), (a_tp, .inr (10, [.ref a_tb, .int tt, .int n_h0_at_18, .int 1, .int tf, .int n_h0_start_19, .int n_h0_end_20, .int n_h0_sort_21, .int n_h0_sign_22, .int n_h0_faultSort_73, .int n_h0_faultPlace_74])), (a_tb, .inl (ca_tb, 700, .inl fa_tb)), (a_pa, .inr (5, [a_pa_0, a_pa_1, .ref a_fo, a_pa_3, a_pa_4, a_pa_5, a_pa_6, a_pa_7, a_pa_8, .int pk])), (a_fo, .inl (ca_fo, 11520, .inl fa_fo))]) hP hD [0, 4, 3, 1, 2] (by decide) rfl
        have hK9 := hK.sub (tys' := []) [] rfl
        refine W.widen (k := 0) (n := 0) (Nat.le_of_ble_eq_true rfl) (Nat.le_of_ble_eq_true rfl) ?_
        exact W.zret (v := 0) hx hb hr (by rfl) (fun t ht hW => ⟨⟨0, 0, rfl, ⟨rfl, (Or.inr (⟨rfl, trivial⟩))⟩, ⟨z_13, n_h0_at_18, n_h0_start_19, n_h0_end_20, n_h0_sort_21, n_h0_sign_22, n_h0_faultSort_73, n_h0_faultPlace_74, fa_fo, hp_23, hp_24, hp_25, (fun h9 => absurd h9 (by decide)), (fun h9 => absurd h9 (by decide)), (fun h9 => absurd h9 (by decide)), (fun h9 => absurd h9 (by decide)), (fun _ => (show ¬ f_E fa_tb tt.toInt pk.toInt 3 fp ts.toInt from f_not hE_32 (f_E4x (fun k8 v8 b8 ht8 => f_tk_numn hp_27 (by omega) ht8)))), (fun h9 => absurd h9 (by decide)), by rw [ht]; exact hP9, va_K.moved hW.alike hK9, hD9⟩⟩, hS.F ht⟩) hS.2.2 dX1_readPart_82
    · have k_75 : (z_8).toInt ≠ (0 : Int) := z_ne c_9
      obtain rfl : z_8 = 1 := z_eq' (show (z_8).toInt = (1 : Int) by omega)
      refine lv_aload_n hx hb dX1_readPart_35 rfl (lv_at hl 1 rfl) ?_
      refine va_get (D := (dC, dI)) (ci := 1) (v := .ref a_tp) (C := RX1) (T := TX1) (N := 6) hx hb hts hiX1 hown hK hP 0 rfl rfl 0 (by decide) w__fieldLink_RX1_24_ShellHeap_FindsReader_tape_LShellHeap_Tape_ (fun _ h9 => h9) rfl dX1_readPart_36 ?_
      refine lv_iconst (v := 3) hx hb dX1_readPart_39 (by decide) ?_
      obtain ⟨hPc, hDc, hFc⟩ := z_sub3 (ws' := [(a_tp, .inr (10, [.ref a_tb, .int tt, .int ta, .int 1, .int tf, .int ts, .int te, .int to, .int tg, .int tx, .int ty]))]) hP hD hS hA [1] (by decide) rfl
      have hKc := hK.sub (tys' := []) [] rfl
      refine va_calli (va_runV (As := [.int 3]) (rest := []) ⟨hx, hb, hml, hown, hts⟩ (s_X10_fail l dC dI H_1.size a_tp 3 (.ref a_tb) (.int tt) (.int ta) (.int 1) (.int tf) ts (.int te) (.int to) (.int tg) tx ty hB_ts) (cwV 1 hts gw_s_X1_readPart3_s_X10_fail_55 rfl rfl rfl (by decide +kernel) ⟨Nat.le_of_ble_eq_true rfl, Nat.le_of_ble_eq_true rfl⟩) ⟨z_blind, va_recv hKc hPc (ci := 10) (q0 := 0) rfl rfl, z_pre hPc hKc hDc⟩ rfl rfl hl.1 rfl (lv_room (Nat.le_of_ble_eq_true rfl)) dX1_readPart_40 ⟨Nat.le_of_ble_eq_true rfl, Nat.le_of_ble_eq_true rfl⟩) hS (fun q _ h => hFc q h) hFc (fun r_78 u t H_77 locs ht hvm hw_79 hB hz1 hk1 hS => ?_)
      obtain ⟨n_h0_faultSort_80, n_h0_faultPlace_81, hP1, hK1, hD1⟩ := hB
      rw [ht] at hP1
      have hK1 := va_K.moved hvm.symm hK1
      obtain ⟨hP, hD⟩ := z_ap_4 (va_join (wr := [(h0, .inr (1, [.ref a_tp, .ref a_pa, .int fn, .int fk, .int fs, .int fp])), (a_tb, .inl (ca_tb, 700, .inl fa_tb)), (a_pa, .inr (5, [a_pa_0, a_pa_1, .ref a_fo, a_pa_3, a_pa_4, a_pa_5, a_pa_6, a_pa_7, a_pa_8, .int pk])), (a_fo, .inl (ca_fo, 11520, .inl fa_fo))]) hP hD [1] [0, 2, 3, 4] rfl rfl (by decide) (by decide) hk1 hFc hP1 hD1)
      clear hPc hDc hKc
      obtain rfl : r_78 = 0 := hw_79
      obtain ⟨hP9, hD9⟩ := z_sub2 (ws' := [(h0, .inr (1, [.ref a_tp, .ref a_pa, .int fn, .int fk, .int fs, .int fp])), (a_tp, .inr (10, [.ref a_tb, .int tt, .int ta, .int 1, .int tf, .int ts, .int te, .int to, .int tg, .int n_h0_faultSort_80, .int n_h0_faultPlace_81])), (a_tb, .inl (ca_tb, 700, .inl fa_tb)), (a_pa, .inr (5, [a_pa_0, a_pa_1, .ref a_fo, a_pa_3, a_pa_4, a_pa_5, a_pa_6, a_pa_7, a_pa_8, .int pk])), (a_fo, .inl (ca_fo, 11520, .inl fa_fo))]) hP hD [0, 4, 1, 2, 3] (by decide) rfl
      have hK9 := hK.sub (tys' := []) [] rfl
      refine W.widen (k := 0) (n := 0) (Nat.le_of_ble_eq_true rfl) (Nat.le_of_ble_eq_true rfl) ?_
      exact W.zret (v := 0) hx hb hr (by rfl) (fun t ht hW => ⟨⟨0, 0, rfl, ⟨rfl, (Or.inr (⟨rfl, trivial⟩))⟩, ⟨fp, ta, ts, te, to, tg, n_h0_faultSort_80, n_h0_faultPlace_81, fa_fo, hB_ta, hB_ts, hB_te, (fun h9 => absurd h9 (by decide)), (fun h9 => absurd h9 (by decide)), (fun h9 => absurd h9 (by decide)), (fun h9 => absurd h9 (by decide)), (fun _ => (show ¬ f_E fa_tb tt.toInt pk.toInt 3 fp ts.toInt from f_E3n hwy_6.2.2 (fun h9 => h9.2 (f_bit_of rfl (ez_8.trans (by rw [ez_7])) (by omega))))), (fun h9 => absurd h9 (by decide)), by rw [ht]; exact hP9, va_K.moved hW.alike hK9, hD9⟩⟩, hS.F ht⟩) hS.2.2 dX1_readPart_43
  · have k_82 : (r_2).toInt = (-1 : Int) := z_eq c_4
    obtain rfl : r_2 = (-1) := z_eq' (show (r_2).toInt = (-1 : Int) by omega)
    refine lv_aload_n hx hb dX1_readPart_15 rfl (lv_at hl 1 rfl) ?_
    refine va_get (D := (dC, dI)) (ci := 1) (v := .ref a_tp) (C := RX1) (T := TX1) (N := 6) hx hb hts hiX1 hown hK hP 0 rfl rfl 0 (by decide) w__fieldLink_RX1_24_ShellHeap_FindsReader_tape_LShellHeap_Tape_ (fun _ h9 => h9) rfl dX1_readPart_16 ?_
    refine lv_iconst (v := 1) hx hb dX1_readPart_19 (by decide) ?_
    obtain ⟨hPc, hDc, hFc⟩ := z_sub3 (ws' := [(a_tp, .inr (10, [.ref a_tb, .int tt, .int ta, .int 1, .int tf, .int ts, .int te, .int to, .int tg, .int tx, .int ty]))]) hP hD hS hA [1] (by decide) rfl
    have hKc := hK.sub (tys' := []) [] rfl
    refine va_calli (va_runV (As := [.int 1]) (rest := []) ⟨hx, hb, hml, hown, hts⟩ (s_X10_fail l dC dI H_1.size a_tp 1 (.ref a_tb) (.int tt) (.int ta) (.int 1) (.int tf) ts (.int te) (.int to) (.int tg) tx ty hB_ts) (cwV 1 hts gw_s_X1_readPart3_s_X10_fail_55 rfl rfl rfl (by decide +kernel) ⟨Nat.le_of_ble_eq_true rfl, Nat.le_of_ble_eq_true rfl⟩) ⟨z_blind, va_recv hKc hPc (ci := 10) (q0 := 0) rfl rfl, z_pre hPc hKc hDc⟩ rfl rfl hl.1 rfl (lv_room (Nat.le_of_ble_eq_true rfl)) dX1_readPart_20 ⟨Nat.le_of_ble_eq_true rfl, Nat.le_of_ble_eq_true rfl⟩) hS (fun q _ h => hFc q h) hFc (fun r_85 u t H_84 locs ht hvm hw_86 hB hz1 hk1 hS => ?_)
    obtain ⟨n_h0_faultSort_87, n_h0_faultPlace_88, hP1, hK1, hD1⟩ := hB
    rw [ht] at hP1
    have hK1 := va_K.moved hvm.symm hK1
    obtain ⟨hP, hD⟩ := z_ap_4 (va_join (wr := [(h0, .inr (1, [.ref a_tp, .ref a_pa, .int fn, .int fk, .int fs, .int fp])), (a_tb, .inl (ca_tb, 700, .inl fa_tb)), (a_pa, .inr (5, [a_pa_0, a_pa_1, .ref a_fo, a_pa_3, a_pa_4, a_pa_5, a_pa_6, a_pa_7, a_pa_8, .int pk])), (a_fo, .inl (ca_fo, 11520, .inl fa_fo))]) hP hD [1] [0, 2, 3, 4] rfl rfl (by decide) (by decide) hk1 hFc hP1 hD1)
    clear hPc hDc hKc
    obtain rfl : r_85 = 0 := hw_86
    obtain ⟨hP9, hD9⟩ := z_sub2 (ws' := [(h0, .inr (1, [.ref a_tp, .ref a_pa, .int fn, .int fk, .int fs, .int fp])), (a_tp, .inr (10, [.ref a_tb, .int tt, .int ta, .int 1, .int tf, .int ts, .int te, .int to, .int tg, .int n_h0_faultSort_87, .int n_h0_faultPlace_88])), (a_tb, .inl (ca_tb, 700, .inl fa_tb)), (a_pa, .inr (5, [a_pa_0, a_pa_1, .ref a_fo, a_pa_3, a_pa_4, a_pa_5, a_pa_6, a_pa_7, a_pa_8, .int pk])), (a_fo, .inl (ca_fo, 11520, .inl fa_fo))]) hP hD [0, 4, 1, 2, 3] (by decide) rfl
    have hK9 := hK.sub (tys' := []) [] rfl
    refine W.widen (k := 0) (n := 0) (Nat.le_of_ble_eq_true rfl) (Nat.le_of_ble_eq_true rfl) ?_
    exact W.zret (v := 0) hx hb hr (by rfl) (fun t ht hW => ⟨⟨0, 0, rfl, ⟨rfl, (Or.inr (⟨rfl, trivial⟩))⟩, ⟨fp, ta, ts, te, to, tg, n_h0_faultSort_87, n_h0_faultPlace_88, fa_fo, hB_ta, hB_ts, hB_te, (fun h9 => absurd h9 (by decide)), (fun h9 => absurd h9 (by decide)), (fun h9 => absurd h9 (by decide)), (fun h9 => absurd h9 (by decide)), (fun _ => (show ¬ f_E fa_tb tt.toInt pk.toInt 3 fp ts.toInt from f_E3x (f_wiA_n hw_3.2 (by first | omega | decide)))), (fun h9 => absurd h9 (by decide)), by rw [ht]; exact hP9, va_K.moved hW.alike hK9, hD9⟩⟩, hS.F ht⟩) hS.2.2 dX1_readPart_23
def u_s_X1_readFind3 : List Cond := .code yX1_readFind cX1_readFind 2 (some .boolean) :: ([.methodLink RX1 65 yX1_readKind, .instanceMethod yX1_readKind, .selects RX1 yX1_readKind yX1_readKind, .initialized RX1, .methodLink RX1 68 yX1_readSieve, .instanceMethod yX1_readSieve, .selects RX1 yX1_readSieve yX1_readSieve, .methodLink RX1 51 yX1_passSign, .instanceMethod yX1_passSign, .selects RX1 yX1_passSign yX1_passSign, .fieldLink RX1 21 "ShellHeap$FindsReader" "toldParts" "I", .methodLink RX1 71 yX1_readPart, .instanceMethod yX1_readPart, .selects RX1 yX1_readPart yX1_readPart, .fieldLink RX1 24 "ShellHeap$FindsReader" "tape" "LShellHeap$Tape;", .fieldLink RX1 59 "ShellHeap$Tape" "sign" "I", .methodLink RX1 62 yX10_next, .instanceMethod yX10_next, .selects RX10 yX10_next yX10_next, .initialized RX10] ++ (wsX10 ++ (wsX100 ++ (u_s_X1_readKind3 ++ (u_s_X1_readSieve3 ++ (u_s_X1_passSign_58 ++ (u_s_X1_readPart3 ++ (u_s_X10_next3 ++ []))))))))
theorem gd_s_X1_readFind3 : z_gd u_s_X1_readFind3 := z_gdc (by decide +kernel) (z_gda gdX1 (z_gda gdX10 (z_gda gd_s_X1_readKind3 (z_gda gd_s_X1_readSieve3 (z_gda gd_s_X1_passSign_58 (z_gda gd_s_X1_readPart3 (z_gda gd_s_X10_next3 (z_gd0))))))))
set_option maxRecDepth 20000 in
theorem gw_s_X1_readFind3_s_X1_readKind3_65 : GoodIn u_s_X1_readFind3 (wsV RX1 65 RX1 yX1_readKind u_s_X1_readKind3) := z_gV (z_gr _ [1, 2, 3, 4] rfl (by decide +kernel)) (fun w h => ⟨z_mc (z_mr (z_mr (z_mr (z_ml h)))), gd_s_X1_readKind3 w h⟩)
set_option maxRecDepth 20000 in
theorem gw_s_X1_readFind3_s_X1_readSieve3_68 : GoodIn u_s_X1_readFind3 (wsV RX1 68 RX1 yX1_readSieve u_s_X1_readSieve3) := z_gV (z_gr _ [5, 6, 7, 4] rfl (by decide +kernel)) (fun w h => ⟨z_mc (z_mr (z_mr (z_mr (z_mr (z_ml h))))), gd_s_X1_readSieve3 w h⟩)
set_option maxRecDepth 20000 in
theorem gw_s_X1_readFind3_s_X1_passSign_58_51 : GoodIn u_s_X1_readFind3 (wsV RX1 51 RX1 yX1_passSign u_s_X1_passSign_58) := z_gV (z_gr _ [8, 9, 10, 4] rfl (by decide +kernel)) (fun w h => ⟨z_mc (z_mr (z_mr (z_mr (z_mr (z_mr (z_ml h)))))), gd_s_X1_passSign_58 w h⟩)
set_option maxRecDepth 20000 in
theorem gw_s_X1_readFind3_s_X1_readPart3_71 : GoodIn u_s_X1_readFind3 (wsV RX1 71 RX1 yX1_readPart u_s_X1_readPart3) := z_gV (z_gr _ [12, 13, 14, 4] rfl (by decide +kernel)) (fun w h => ⟨z_mc (z_mr (z_mr (z_mr (z_mr (z_mr (z_mr (z_ml h))))))), gd_s_X1_readPart3 w h⟩)
set_option maxRecDepth 20000 in
theorem gw_s_X1_readFind3_s_X10_next3_62 : GoodIn u_s_X1_readFind3 (wsV RX1 62 RX10 yX10_next u_s_X10_next3) := z_gV (z_gr _ [17, 18, 19, 20] rfl (by decide +kernel)) (fun w h => ⟨z_mc (z_mr (z_mr (z_mr (z_mr (z_mr (z_mr (z_mr (z_ml h)))))))), gd_s_X10_next3 w h⟩)
set_option maxHeartbeats 4000000 in
set_option maxRecDepth 100000 in
theorem s_X1_readFind3 (l : Launch) (dC : Nat → ClassId) (dI : Nat → Nat → Nat) (sz : Nat) (sd : Nat → Nat) (sv : Nat → Nat) (sf : Value) (h0 : Nat) (a_tp : Nat) (a_pa : Nat) (fn : Int32) (fk : Int32) (fs : Int32) (fp : Int32) (a_tb : Nat) (tt : Int32) (ta : Int32) (tf : Int32) (ts : Int32) (te : Int32) (to : Int32) (tg : Int32) (tx : Int32) (ty : Int32) (ca_tb : ClassId) (fa_tb : Nat → Int32) (a_pa_0 : Value) (a_pa_1 : Value) (a_fo : Nat) (a_pa_3 : Value) (a_pa_4 : Value) (a_pa_5 : Value) (a_pa_6 : Value) (a_pa_7 : Value) (a_pa_8 : Value) (pk : Int32) (ca_fo : ClassId) (fa_fo : Nat → Int32) (hB_tt : ((0 : Int) ≤ (tt).toInt ∧ (tt).toInt ≤ (700 : Int))) (hB_ta : ((0 : Int) ≤ (ta).toInt ∧ (ta).toInt ≤ (700 : Int))) (hB_tf : ((0 : Int) ≤ (tf).toInt ∧ (tf).toInt ≤ (700 : Int))) (hB_ts : ((0 : Int) ≤ (ts).toInt ∧ (ts).toInt ≤ (700 : Int))) (hB_te : ((0 : Int) ≤ (te).toInt ∧ (te).toInt ≤ (700 : Int))) (hB_fn : ((0 : Int) ≤ (fn).toInt ∧ (fn).toInt ≤ (79 : Int))) (hB_pk : ((0 : Int) ≤ (pk).toInt ∧ (pk).toInt ≤ (6 : Int))) (hI_a_tb : ∀ j : Nat, ((0 : Int) ≤ (fa_tb j).toInt ∧ (fa_tb j).toInt ≤ (255 : Int))) (hC : f_C fa_tb tt.toInt to.toInt tg.toInt ts.toInt te.toInt) (hpg : f_pg to.toInt ts.toInt te.toInt) (hat : ta.toInt = te.toInt ∧ te.toInt ≤ tt.toInt ∧ ts.toInt ≤ te.toInt) : Met l yX1_readFind u_s_X1_readFind3 ({ frames := 6, cells := 0, slots := 0, locals := 133 }) (va_Pc [.ref h0] (z_CS (dC, dI) vwCl [(h0, .inr (1, [.ref a_tp, .ref a_pa, .int fn, .int fk, .int fs, .int fp])), (a_tp, .inr (10, [.ref a_tb, .int tt, .int ta, .int 1, .int tf, .int ts, .int te, .int to, .int tg, .int tx, .int ty])), (a_tb, .inl (ca_tb, 700, .inl fa_tb)), (a_pa, .inr (5, [a_pa_0, a_pa_1, .ref a_fo, a_pa_3, a_pa_4, a_pa_5, a_pa_6, a_pa_7, a_pa_8, .int pk])), (a_fo, .inl (ca_fo, 11520, .inl fa_fo))] [(ca_tb, .int), (ca_fo, .int)] sz sd sv sf [(h0, .inr (1, [.ref a_tp, .ref a_pa, .int fn, .int fk, .int fs, .int fp])), (a_tp, .inr (10, [.ref a_tb, .int tt, .int ta, .int 1, .int tf, .int ts, .int te, .int to, .int tg, .int tx, .int ty])), (a_tb, .inl (ca_tb, 700, .inl fa_tb)), (a_pa, .inr (5, [a_pa_0, a_pa_1, .ref a_fo, a_pa_3, a_pa_4, a_pa_5, a_pa_6, a_pa_7, a_pa_8, .int pk])), (a_fo, .inl (ca_fo, 11520, .inl fa_fo))])) (va_Qi (fun (r : Int32) (u : Int32) => r = u ∧ ((r = 1 ∧ True) ∨ (r = 0 ∧ True))) (fun (u : Int32) (t : State) => ∃ (n_h0_kind : Int32), ∃ (n_h0_sieve : Int32), ∃ (n_h0_toldParts : Int32), ∃ (n_a_tp_at : Int32), ∃ (n_a_tp_start : Int32), ∃ (n_a_tp_end : Int32), ∃ (n_a_tp_sort : Int32), ∃ (n_a_tp_sign : Int32), ∃ (n_a_tp_faultSort : Int32), ∃ (n_a_tp_faultPlace : Int32), ∃ (g_a_fo : Nat → Int32), ((0 : Int) ≤ (n_a_tp_at).toInt ∧ (n_a_tp_at).toInt ≤ (700 : Int)) ∧ ((0 : Int) ≤ (n_a_tp_start).toInt ∧ (n_a_tp_start).toInt ≤ (700 : Int)) ∧ ((0 : Int) ≤ (n_a_tp_end).toInt ∧ (n_a_tp_end).toInt ≤ (700 : Int)) ∧ (u = 1 → (n_a_tp_at.toInt = n_a_tp_end.toInt ∧ n_a_tp_end.toInt ≤ tt.toInt ∧ n_a_tp_start.toInt ≤ n_a_tp_end.toInt ∧ ts.toInt + 1 ≤ n_a_tp_start.toInt)) ∧ (u = 1 → f_C fa_tb tt.toInt n_a_tp_sort.toInt n_a_tp_sign.toInt n_a_tp_start.toInt n_a_tp_end.toInt) ∧ (u = 1 → f_pg n_a_tp_sort.toInt n_a_tp_start.toInt n_a_tp_end.toInt) ∧ (u = 1 → (f_E fa_tb tt.toInt pk.toInt 0 0 ts.toInt ↔ f_E fa_tb tt.toInt pk.toInt 5 n_h0_toldParts n_a_tp_start.toInt)) ∧ (u = 0 → ¬ f_E fa_tb tt.toInt pk.toInt 0 0 ts.toInt) ∧ (u = 1 → (n_a_tp_sign.toInt ≠ 44)) ∧ va_P (dC, dI) vwCl [(h0, .inr (1, [.ref a_tp, .ref a_pa, .int fn, .int n_h0_kind, .int n_h0_sieve, .int n_h0_toldParts])), (a_tp, .inr (10, [.ref a_tb, .int tt, .int n_a_tp_at, .int 1, .int tf, .int n_a_tp_start, .int n_a_tp_end, .int n_a_tp_sort, .int n_a_tp_sign, .int n_a_tp_faultSort, .int n_a_tp_faultPlace])), (a_tb, .inl (ca_tb, 700, .inl fa_tb)), (a_pa, .inr (5, [a_pa_0, a_pa_1, .ref a_fo, a_pa_3, a_pa_4, a_pa_5, a_pa_6, a_pa_7, a_pa_8, .int pk])), (a_fo, .inl (ca_fo, 11520, .inl g_a_fo))] t.heap ∧ va_K (dC, dI) vwCl [] t ∧ va_D (va_A [(h0, .inr (1, [.ref a_tp, .ref a_pa, .int fn, .int fk, .int fs, .int fp])), (a_tp, .inr (10, [.ref a_tb, .int tt, .int ta, .int 1, .int tf, .int ts, .int te, .int to, .int tg, .int tx, .int ty])), (a_tb, .inl (ca_tb, 700, .inl fa_tb)), (a_pa, .inr (5, [a_pa_0, a_pa_1, .ref a_fo, a_pa_3, a_pa_4, a_pa_5, a_pa_6, a_pa_7, a_pa_8, .int pk])), (a_fo, .inl (ca_fo, 11520, .inl fa_fo))] sz) [(h0, .inr (1, [.ref a_tp, .ref a_pa, .int fn, .int n_h0_kind, .int n_h0_sieve, .int n_h0_toldParts])), (a_tp, .inr (10, [.ref a_tb, .int tt, .int n_a_tp_at, .int 1, .int tf, .int n_a_tp_start, .int n_a_tp_end, .int n_a_tp_sort, .int n_a_tp_sign, .int n_a_tp_faultSort, .int n_a_tp_faultPlace])), (a_tb, .inl (ca_tb, 700, .inl fa_tb)), (a_pa, .inr (5, [a_pa_0, a_pa_1, .ref a_fo, a_pa_3, a_pa_4, a_pa_5, a_pa_6, a_pa_7, a_pa_8, .int pk])), (a_fo, .inl (ca_fo, 11520, .inl g_a_fo))]) (va_A [(h0, .inr (1, [.ref a_tp, .ref a_pa, .int fn, .int fk, .int fs, .int fp])), (a_tp, .inr (10, [.ref a_tb, .int tt, .int ta, .int 1, .int tf, .int ts, .int te, .int to, .int tg, .int tx, .int ty])), (a_tb, .inl (ca_tb, 700, .inl fa_tb)), (a_pa, .inr (5, [a_pa_0, a_pa_1, .ref a_fo, a_pa_3, a_pa_4, a_pa_5, a_pa_6, a_pa_7, a_pa_8, .int pk])), (a_fo, .inl (ca_fo, 11520, .inl fa_fo))] sz)) 0 0 (va_A [(h0, .inr (1, [.ref a_tp, .ref a_pa, .int fn, .int fk, .int fs, .int fp])), (a_tp, .inr (10, [.ref a_tb, .int tt, .int ta, .int 1, .int tf, .int ts, .int te, .int to, .int tg, .int tx, .int ty])), (a_tb, .inl (ca_tb, 700, .inl fa_tb)), (a_pa, .inr (5, [a_pa_0, a_pa_1, .ref a_fo, a_pa_3, a_pa_4, a_pa_5, a_pa_6, a_pa_7, a_pa_8, .int pk])), (a_fo, .inl (ca_fo, 11520, .inl fa_fo))] sz) := by
  refine Met.ofW (cc := cX1_readFind) (maxL := 2) (ret := (some .boolean)) (by decide) rfl ?_
  intro p e s m args below meth c s₁ B hml hv
  obtain ⟨rfl, ⟨hsz, hP, hK, hD0⟩, hST⟩ := hv
  have hx := B.exec
  have hb := B.bytes
  have hr := B.returns
  have hts := atoms_spec (ws := u_s_X1_readFind3) B.pre
  have hown : s.vm.findClass RX1 = some m.cls := findClass_of_methodNamed B.named
  have hlocks := B.notSynchronized
  subst hsz
  have hD := hD0.self (sz := s.heap.size)
  generalize hAe : va_A [(h0, .inr (1, [.ref a_tp, .ref a_pa, .int fn, .int fk, .int fs, .int fp])), (a_tp, .inr (10, [.ref a_tb, .int tt, .int ta, .int 1, .int tf, .int ts, .int te, .int to, .int tg, .int tx, .int ty])), (a_tb, .inl (ca_tb, 700, .inl fa_tb)), (a_pa, .inr (5, [a_pa_0, a_pa_1, .ref a_fo, a_pa_3, a_pa_4, a_pa_5, a_pa_6, a_pa_7, a_pa_8, .int pk])), (a_fo, .inl (ca_fo, 11520, .inl fa_fo))] s.heap.size = A at hD hST ⊢
  have hA : ∀ q : Nat, s.heap.size ≤ q → A q := fun q h => by rw [← hAe]; exact Or.inr h
  have hS : va_S A s.heap s.heap [] := va_S.rf
  have hP : va_P (dC, dI) vwCl [(h0, .inr (1, [.ref a_tp, .ref a_pa, .int fn, .int fk, .int fs, .int fp])), (a_tp, .inr (10, [.ref a_tb, .int tt, .int ta, .int 1, .int tf, .int ts, .int te, .int to, .int tg, .int tx, .int ty])), (a_tb, .inl (ca_tb, 700, .inl fa_tb)), (a_pa, .inr (5, [a_pa_0, a_pa_1, .ref a_fo, a_pa_3, a_pa_4, a_pa_5, a_pa_6, a_pa_7, a_pa_8, .int pk])), (a_fo, .inl (ca_fo, 11520, .inl fa_fo))] s.heap := hP
  have w__fieldLink_RX1_21_ShellHeap_FindsReader_toldParts_I_ := hts (.fieldLink RX1 21 "ShellHeap$FindsReader" "toldParts" "I") (z_mc (z_ml z_m10))
  have hiX1 := show ∀ w ∈ u_ws RX1 TX1 6, w ∈ u_s_X1_readFind3 from fun w h => z_mc (z_mr (z_ml h))
  have w__fieldLink_RX1_24_ShellHeap_FindsReader_tape_LShellHeap_Tape_ := hts (.fieldLink RX1 24 "ShellHeap$FindsReader" "tape" "LShellHeap$Tape;") (z_mc (z_ml z_m14))
  have w__fieldLink_RX1_59_ShellHeap_Tape_sign_I_ := hts (.fieldLink RX1 59 "ShellHeap$Tape" "sign" "I") (z_mc (z_ml z_m15))
  have hiX10 := show ∀ w ∈ u_ws RX10 TX10 11, w ∈ u_s_X1_readFind3 from fun w h => z_mc (z_mr (z_mr (z_ml h)))
  have hl := lv_entry ([.ref h0]) (n := 2) (Nat.le_of_ble_eq_true rfl)
  rw [lg_entry_eq]
  generalize (lg_sl ([.ref h0]) ++ List.replicate (2 - (lg_sl ([.ref h0])).length) Slot.unset).toArray = ls at hl ⊢
  have hl : lv_has ls 2 [(0, .ref h0)] := hl
  refine z_nameQ (fun QQ hQQ => ?_)
  refine lv_aload_n hx hb dX1_readFind_0 rfl (lv_at hl 0 rfl) ?_
  obtain ⟨hPc, hDc, hFc⟩ := z_sub3 (ws' := [(h0, .inr (1, [.ref a_tp, .ref a_pa, .int fn, .int fk, .int fs, .int fp])), (a_tp, .inr (10, [.ref a_tb, .int tt, .int ta, .int 1, .int tf, .int ts, .int te, .int to, .int tg, .int tx, .int ty])), (a_tb, .inl (ca_tb, 700, .inl fa_tb)), (a_pa, .inr (5, [a_pa_0, a_pa_1, .ref a_fo, a_pa_3, a_pa_4, a_pa_5, a_pa_6, a_pa_7, a_pa_8, .int pk]))]) hP hD hS hA [0, 1, 2, 3] (by decide) rfl
  have hKc := hK.sub (tys' := [(ca_tb, .int)]) [0] rfl
  refine va_calli (va_runV (As := []) (rest := []) ⟨hx, hb, hml, hown, hts⟩ (s_X1_readKind3 l dC dI s.heap.size sd sv sf h0 a_tp a_pa fn fk fs fp a_tb tt ta tf ts te to tg tx ty ca_tb fa_tb a_pa_0 a_pa_1 a_fo a_pa_3 a_pa_4 a_pa_5 a_pa_6 a_pa_7 a_pa_8 pk hB_tt hB_ta hB_tf hB_ts hB_te hB_pk hI_a_tb hC hpg (by first | omega | decide)) (cwV 0 hts gw_s_X1_readFind3_s_X1_readKind3_65 rfl rfl rfl (by decide +kernel) ⟨Nat.le_of_ble_eq_true rfl, Nat.le_of_ble_eq_true rfl⟩) ⟨z_blindS, va_recv hKc hPc (ci := 1) (q0 := 0) rfl rfl, z_preS hPc hKc hDc ((hST.kept hS.2.1).narrow hFc)⟩ rfl rfl hl.1 rfl (lv_room (Nat.le_of_ble_eq_true rfl)) dX1_readFind_1 ⟨Nat.le_of_ble_eq_true rfl, Nat.le_of_ble_eq_true rfl⟩) hS (fun q _ h => hFc q h) hFc (fun r_2 u t H_1 locs ht hvm hw_3 hB hz1 hk1 hS => ?_)
  obtain ⟨rfl, hw_3⟩ := hw_3
  obtain ⟨n_h0_kind_4, n_a_tp_at_5, n_a_tp_start_6, n_a_tp_end_7, n_a_tp_sort_8, n_a_tp_sign_9, n_a_tp_faultSort_10, n_a_tp_faultPlace_11, hp_12, hp_13, hp_14, hp_15, hp_16, hp_17, hp_18, hp_19, hp_20, hP1, hK1, hD1⟩ := hB
  rw [ht] at hP1
  have hK1 := va_K.moved hvm.symm hK1
  obtain ⟨hP, hD⟩ := z_ap_1 (va_join (wr := [(a_fo, .inl (ca_fo, 11520, .inl fa_fo))]) hP hD [0, 1, 2, 3] [4] rfl rfl (by decide) (by decide) hk1 hFc hP1 hD1)
  clear hPc hDc hKc
  rcases hw_3 with ⟨rfl, hw_3⟩ | ⟨rfl, hw_3⟩
  · have hw_3 : True := hw_3
    have hp_15 : ((0 : Int) ≤ n_h0_kind_4.toInt ∧ n_h0_kind_4.toInt ≤ (5 : Int)) := hp_15 rfl
    have hp_16 : (n_a_tp_at_5.toInt = n_a_tp_end_7.toInt ∧ n_a_tp_end_7.toInt ≤ tt.toInt ∧ n_a_tp_start_6.toInt ≤ n_a_tp_end_7.toInt ∧ ts.toInt + 1 ≤ n_a_tp_start_6.toInt) := hp_16 rfl
    have hp_17 : f_C fa_tb tt.toInt n_a_tp_sort_8.toInt n_a_tp_sign_9.toInt n_a_tp_start_6.toInt n_a_tp_end_7.toInt := hp_17 rfl
    have hp_18 : f_pg n_a_tp_sort_8.toInt n_a_tp_start_6.toInt n_a_tp_end_7.toInt := hp_18 rfl
    have hp_19 : (f_E fa_tb tt.toInt pk.toInt 0 0 ts.toInt ↔ f_E fa_tb tt.toInt pk.toInt 1 0 n_a_tp_start_6.toInt) := hp_19 rfl
    refine lv_if_eq (tgt := 23) hx hb dX1_readFind_4 (by decide) (fun c_21 => absurd c_21 (by decide)) (fun _ => ?_)
    have hE_22 := hp_19
    refine lv_aload_n hx hb dX1_readFind_7 rfl (lv_at hl 0 rfl) ?_
    obtain ⟨hPc, hDc, hFc⟩ := z_sub3 (ws' := [(h0, .inr (1, [.ref a_tp, .ref a_pa, .int fn, .int n_h0_kind_4, .int fs, .int fp])), (a_tp, .inr (10, [.ref a_tb, .int tt, .int n_a_tp_at_5, .int 1, .int tf, .int n_a_tp_start_6, .int n_a_tp_end_7, .int n_a_tp_sort_8, .int n_a_tp_sign_9, .int n_a_tp_faultSort_10, .int n_a_tp_faultPlace_11])), (a_tb, .inl (ca_tb, 700, .inl fa_tb)), (a_pa, .inr (5, [a_pa_0, a_pa_1, .ref a_fo, a_pa_3, a_pa_4, a_pa_5, a_pa_6, a_pa_7, a_pa_8, .int pk]))]) hP hD hS hA [1, 2, 3, 4] (by decide) rfl
    have hKc := hK.sub (tys' := [(ca_tb, .int)]) [0] rfl
    refine va_calli (va_runV (As := []) (rest := []) ⟨hx, hb, hml, hown, hts⟩ (s_X1_readSieve3 l dC dI H_1.size sd sv sf h0 a_tp a_pa fn n_h0_kind_4 fs fp a_tb tt n_a_tp_at_5 tf n_a_tp_start_6 n_a_tp_end_7 n_a_tp_sort_8 n_a_tp_sign_9 n_a_tp_faultSort_10 n_a_tp_faultPlace_11 ca_tb fa_tb a_pa_0 a_pa_1 a_fo a_pa_3 a_pa_4 a_pa_5 a_pa_6 a_pa_7 a_pa_8 pk hB_tt hp_12 hB_tf hp_13 hp_14 hB_pk hI_a_tb hp_17 hp_18 (by first | omega | decide)) (cwV 0 hts gw_s_X1_readFind3_s_X1_readSieve3_68 rfl rfl rfl (by decide +kernel) ⟨Nat.le_of_ble_eq_true rfl, Nat.le_of_ble_eq_true rfl⟩) ⟨z_blindS, va_recv hKc hPc (ci := 1) (q0 := 0) rfl rfl, z_preS hPc hKc hDc ((hST.kept hS.2.1).narrow hFc)⟩ rfl rfl hl.1 rfl (lv_room (Nat.le_of_ble_eq_true rfl)) dX1_readFind_8 ⟨Nat.le_of_ble_eq_true rfl, Nat.le_of_ble_eq_true rfl⟩) hS (fun q _ h => hFc q h) hFc (fun r_24 u t H_23 locs ht hvm hw_25 hB hz1 hk1 hS => ?_)
    obtain ⟨rfl, hw_25⟩ := hw_25
    obtain ⟨n_h0_sieve_26, n_a_tp_at_27, n_a_tp_start_28, n_a_tp_end_29, n_a_tp_sort_30, n_a_tp_sign_31, n_a_tp_faultSort_32, n_a_tp_faultPlace_33, hp_34, hp_35, hp_36, hp_37, hp_38, hp_39, hp_40, hp_41, hp_42, hP1, hK1, hD1⟩ := hB
    rw [ht] at hP1
    have hK1 := va_K.moved hvm.symm hK1
    obtain ⟨hP, hD⟩ := z_ap_1 (va_join (wr := [(a_fo, .inl (ca_fo, 11520, .inl fa_fo))]) hP hD [1, 2, 3, 4] [0] rfl rfl (by decide) (by decide) hk1 hFc hP1 hD1)
    clear hPc hDc hKc
    rcases hw_25 with ⟨rfl, hw_25⟩ | ⟨rfl, hw_25⟩
    · have hw_25 : True := hw_25
      have hp_37 : ((0 : Int) ≤ n_h0_sieve_26.toInt ∧ n_h0_sieve_26.toInt ≤ (3 : Int)) := hp_37 rfl
      have hp_38 : (n_a_tp_at_27.toInt = n_a_tp_end_29.toInt ∧ n_a_tp_end_29.toInt ≤ tt.toInt ∧ n_a_tp_start_28.toInt ≤ n_a_tp_end_29.toInt ∧ n_a_tp_start_6.toInt + 1 ≤ n_a_tp_start_28.toInt) := hp_38 rfl
      have hp_39 : f_C fa_tb tt.toInt n_a_tp_sort_30.toInt n_a_tp_sign_31.toInt n_a_tp_start_28.toInt n_a_tp_end_29.toInt := hp_39 rfl
      have hp_40 : f_pg n_a_tp_sort_30.toInt n_a_tp_start_28.toInt n_a_tp_end_29.toInt := hp_40 rfl
      have hp_41 : (f_E fa_tb tt.toInt pk.toInt 1 0 n_a_tp_start_6.toInt ↔ f_E fa_tb tt.toInt pk.toInt 2 0 n_a_tp_start_28.toInt) := hp_41 rfl
      refine lv_if_eq (tgt := 23) hx hb dX1_readFind_11 (by decide) (fun c_43 => absurd c_43 (by decide)) (fun _ => ?_)
      have hE_44 := hE_22.trans hp_41
      refine lv_aload_n hx hb dX1_readFind_14 rfl (lv_at hl 0 rfl) ?_
      refine lv_bipush (v := 58) hx hb dX1_readFind_15 (by decide) ?_
      obtain ⟨hPc, hDc, hFc⟩ := z_sub3 (ws' := [(h0, .inr (1, [.ref a_tp, .ref a_pa, .int fn, .int n_h0_kind_4, .int n_h0_sieve_26, .int fp])), (a_tp, .inr (10, [.ref a_tb, .int tt, .int n_a_tp_at_27, .int 1, .int tf, .int n_a_tp_start_28, .int n_a_tp_end_29, .int n_a_tp_sort_30, .int n_a_tp_sign_31, .int n_a_tp_faultSort_32, .int n_a_tp_faultPlace_33])), (a_tb, .inl (ca_tb, 700, .inl fa_tb)), (a_pa, .inr (5, [a_pa_0, a_pa_1, .ref a_fo, a_pa_3, a_pa_4, a_pa_5, a_pa_6, a_pa_7, a_pa_8, .int pk]))]) hP hD hS hA [1, 2, 3, 4] (by decide) rfl
      have hKc := hK.sub (tys' := [(ca_tb, .int)]) [0] rfl
      refine va_calli (va_runV (As := [.int 58]) (rest := []) ⟨hx, hb, hml, hown, hts⟩ (s_X1_passSign_58 l dC dI H_23.size sd sv sf h0 a_tp a_pa fn n_h0_kind_4 n_h0_sieve_26 fp a_tb tt n_a_tp_at_27 tf n_a_tp_start_28 n_a_tp_end_29 n_a_tp_sort_30 n_a_tp_sign_31 n_a_tp_faultSort_32 n_a_tp_faultPlace_33 ca_tb fa_tb a_pa_0 a_pa_1 a_fo a_pa_3 a_pa_4 a_pa_5 a_pa_6 a_pa_7 a_pa_8 pk hB_tt hp_34 hB_tf hp_35 hp_36 hB_pk hI_a_tb hp_39 hp_40 (by first | omega | decide)) (cwV 1 hts gw_s_X1_readFind3_s_X1_passSign_58_51 rfl rfl rfl (by decide +kernel) ⟨Nat.le_of_ble_eq_true rfl, Nat.le_of_ble_eq_true rfl⟩) ⟨z_blindS, va_recv hKc hPc (ci := 1) (q0 := 0) rfl rfl, z_preS hPc hKc hDc ((hST.kept hS.2.1).narrow hFc)⟩ rfl rfl hl.1 rfl (lv_room (Nat.le_of_ble_eq_true rfl)) dX1_readFind_17 ⟨Nat.le_of_ble_eq_true rfl, Nat.le_of_ble_eq_true rfl⟩) hS (fun q _ h => hFc q h) hFc (fun r_46 u t H_45 locs ht hvm hw_47 hB hz1 hk1 hS => ?_)
      obtain ⟨rfl, hw_47⟩ := hw_47
      obtain ⟨n_a_tp_at_48, n_a_tp_start_49, n_a_tp_end_50, n_a_tp_sort_51, n_a_tp_sign_52, n_a_tp_faultSort_53, n_a_tp_faultPlace_54, hp_55, hp_56, hp_57, hp_58, hp_59, hp_60, hp_61, hp_62, hP1, hK1, hD1⟩ := hB
      rw [ht] at hP1
      have hK1 := va_K.moved hvm.symm hK1
      obtain ⟨hP, hD⟩ := z_ap_1 (va_join (wr := [(a_fo, .inl (ca_fo, 11520, .inl fa_fo))]) hP hD [1, 2, 3, 4] [0] rfl rfl (by decide) (by decide) hk1 hFc hP1 hD1)
      clear hPc hDc hKc
      rcases hw_47 with ⟨rfl, hw_47⟩ | ⟨rfl, hw_47⟩
      · have hw_47 : True := hw_47
        have hp_58 : (n_a_tp_at_48.toInt = n_a_tp_end_50.toInt ∧ n_a_tp_end_50.toInt ≤ tt.toInt ∧ n_a_tp_start_49.toInt ≤ n_a_tp_end_50.toInt ∧ n_a_tp_start_28.toInt + 1 ≤ n_a_tp_start_49.toInt) := hp_58 rfl
        have hp_59 : f_C fa_tb tt.toInt n_a_tp_sort_51.toInt n_a_tp_sign_52.toInt n_a_tp_start_49.toInt n_a_tp_end_50.toInt := hp_59 rfl
        have hp_60 : f_pg n_a_tp_sort_51.toInt n_a_tp_start_49.toInt n_a_tp_end_50.toInt := hp_60 rfl
        have hp_61 : (f_E fa_tb tt.toInt pk.toInt 2 0 n_a_tp_start_28.toInt ↔ f_E fa_tb tt.toInt pk.toInt 3 0 n_a_tp_start_49.toInt) := hp_61 rfl
        refine lv_if_ne (tgt := 25) hx hb dX1_readFind_20 (by decide) (fun _ => ?_) (fun c_63 => absurd c_63 (by decide))
        have hE_64 := hE_44.trans hp_61
        refine lv_aload_n hx hb dX1_readFind_25 rfl (lv_at hl 0 rfl) ?_
        refine lv_iconst (v := 0) hx hb dX1_readFind_26 (by decide) ?_
        refine va_put (D := (dC, dI)) (ci := 1) (v := .int 0) (ty := .int) (C := RX1) (T := TX1) (N := 6) hx hb hts hiX1 tyX1 tyX1_ok nmX1 hown hK hP hD hS 1 rfl rfl 5 (by decide) w__fieldLink_RX1_21_ShellHeap_FindsReader_toldParts_I_ (fun _ h9 => h9) rfl (by decide +kernel) rfl rfl (Nat.le_of_ble_eq_true rfl) dX1_readFind_27 (fun H_65 locs hP hD hS => ?_)
        obtain ⟨hP, hD⟩ := z_s_1_5 hP hD
        refine lv_iconst (v := 0) hx hb dX1_readFind_30 (by decide) ?_
        refine lv_istore_n (lv' := [(1, .int 0), (0, .ref h0)]) hx hb dX1_readFind_31 rfl hl (by decide) rfl (fun ls hl => ?_)
        have loop_66 : ∀ (n_67 : Nat) (i_69 : Int32) (v_70 : Int32) (v_71 : Int32) (v_72 : Int32) (v_73 : Int32) (v_74 : Int32) (v_75 : Int32) (v_76 : Int32) (v_77 : Int32) (f_78 : Nat → Int32) (H : Heap) (locs : List Loc) (ls : Array Slot), (701 - (i_69).toInt).toNat < n_67 → (((0 : Int) ≤ (i_69).toInt ∧ (i_69).toInt ≤ (700 : Int))) → (((0 : Int) ≤ (v_71).toInt ∧ (v_71).toInt ≤ (700 : Int))) → (((0 : Int) ≤ (v_72).toInt ∧ (v_72).toInt ≤ (700 : Int))) → (((0 : Int) ≤ (v_73).toInt ∧ (v_73).toInt ≤ (700 : Int))) → (f_C fa_tb (tt).toInt (v_74).toInt (v_75).toInt (v_72).toInt (v_73).toInt) → (f_pg (v_74).toInt (v_72).toInt (v_73).toInt) → ((f_E fa_tb (tt).toInt (pk).toInt 0 0 (ts).toInt ↔ f_E fa_tb (tt).toInt (pk).toInt 3 v_70 (v_72).toInt)) → ((v_71).toInt = (v_73).toInt ∧ (v_73).toInt ≤ (tt).toInt ∧ (v_72).toInt ≤ (v_73).toInt) → (2 * (i_69).toInt ≤ (v_72).toInt) → ((ts).toInt + 1 ≤ (v_72).toInt) → va_P (dC, dI) vwCl [(a_fo, .inl (ca_fo, 11520, .inl f_78)), (h0, .inr (1, [.ref a_tp, .ref a_pa, .int fn, .int n_h0_kind_4, .int n_h0_sieve_26, .int v_70])), (a_tp, .inr (10, [.ref a_tb, .int tt, .int v_71, .int 1, .int tf, .int v_72, .int v_73, .int v_74, .int v_75, .int v_76, .int v_77])), (a_tb, .inl (ca_tb, 700, .inl fa_tb)), (a_pa, .inr (5, [a_pa_0, a_pa_1, .ref a_fo, a_pa_3, a_pa_4, a_pa_5, a_pa_6, a_pa_7, a_pa_8, .int pk]))] H → va_D A [(a_fo, .inl (ca_fo, 11520, .inl f_78)), (h0, .inr (1, [.ref a_tp, .ref a_pa, .int fn, .int n_h0_kind_4, .int n_h0_sieve_26, .int v_70])), (a_tp, .inr (10, [.ref a_tb, .int tt, .int v_71, .int 1, .int tf, .int v_72, .int v_73, .int v_74, .int v_75, .int v_76, .int v_77])), (a_tb, .inl (ca_tb, 700, .inl fa_tb)), (a_pa, .inr (5, [a_pa_0, a_pa_1, .ref a_fo, a_pa_3, a_pa_4, a_pa_5, a_pa_6, a_pa_7, a_pa_8, .int pk]))] → va_S A s.heap H locs → lv_has ls 2 [(1, .int i_69), (0, .ref h0)] → W p l e ({ frames := 6, cells := 0, slots := 0, locals := 133 } : Room) s m ([.ref h0] : List Value).toArray below meth c H locs 0 0 QQ (F0 m 32 ls []) := by
          intro n_67
          induction n_67 with
          | zero => intro i_69 v_70 v_71 v_72 v_73 v_74 v_75 v_76 v_77 f_78 H locs ls hm; exact absurd hm (Nat.not_lt_zero _)
          | succ n_67 ih_68 =>
            intro i_69 v_70 v_71 v_72 v_73 v_74 v_75 v_76 v_77 f_78 H locs ls hm hF_79 hF_80 hF_81 hF_82 hF_83 hF_84 hF_85 hF_86 hF_87 hF_88 hP hD hS hl
            refine lv_iload_n hx hb dX1_readFind_32 rfl (lv_at hl 0 rfl) ?_
            refine lv_sipush (v := 700) hx hb dX1_readFind_33 (by decide) ?_
            refine lv_icmp_ge (tgt := 75) hx hb dX1_readFind_36 (by decide) (fun c_89 => ?_) (fun c_89 => ?_)
            · have k_90 : (700 : Int) ≤ (i_69).toInt := z_le c_89
              obtain rfl : i_69 = 700 := z_eq' (show (i_69).toInt = (700 : Int) by omega)
              exfalso
              omega
            · have k_92 : (700 : Int) > (i_69).toInt := z_nle c_89
              refine lv_aload_n hx hb dX1_readFind_39 rfl (lv_at hl 1 rfl) ?_
              obtain ⟨hPc, hDc, hFc⟩ := z_sub3 (ws' := [(h0, .inr (1, [.ref a_tp, .ref a_pa, .int fn, .int n_h0_kind_4, .int n_h0_sieve_26, .int v_70])), (a_tp, .inr (10, [.ref a_tb, .int tt, .int v_71, .int 1, .int tf, .int v_72, .int v_73, .int v_74, .int v_75, .int v_76, .int v_77])), (a_tb, .inl (ca_tb, 700, .inl fa_tb)), (a_pa, .inr (5, [a_pa_0, a_pa_1, .ref a_fo, a_pa_3, a_pa_4, a_pa_5, a_pa_6, a_pa_7, a_pa_8, .int pk])), (a_fo, .inl (ca_fo, 11520, .inl f_78))]) hP hD hS hA [1, 2, 3, 4, 0] (by decide) rfl
              have hKc := hK
              refine va_calli (va_runV (As := []) (rest := []) ⟨hx, hb, hml, hown, hts⟩ (s_X1_readPart3 l dC dI H.size sd sv sf h0 a_tp a_pa fn n_h0_kind_4 n_h0_sieve_26 v_70 a_tb tt v_71 tf v_72 v_73 v_74 v_75 v_76 v_77 ca_tb fa_tb a_pa_0 a_pa_1 a_fo a_pa_3 a_pa_4 a_pa_5 a_pa_6 a_pa_7 a_pa_8 pk ca_fo f_78 hB_tt hF_80 hB_tf hF_81 hF_82 hB_fn (by first | omega | decide) (by first | omega | decide) hB_pk hI_a_tb hF_83 hF_84 (by first | omega | decide)) (cwV 0 hts gw_s_X1_readFind3_s_X1_readPart3_71 rfl rfl rfl (by decide +kernel) ⟨Nat.le_of_ble_eq_true rfl, Nat.le_of_ble_eq_true rfl⟩) ⟨z_blindS, va_recv hKc hPc (ci := 1) (q0 := 0) rfl rfl, z_preS hPc hKc hDc ((hST.kept hS.2.1).narrow hFc)⟩ rfl rfl hl.1 rfl (lv_room (Nat.le_of_ble_eq_true rfl)) dX1_readFind_40 ⟨Nat.le_of_ble_eq_true rfl, Nat.le_of_ble_eq_true rfl⟩) hS (fun q _ h => hFc q h) hFc (fun r_94 u t H_93 locs ht hvm hw_95 hB hz1 hk1 hS => ?_)
              obtain ⟨rfl, hw_95⟩ := hw_95
              obtain ⟨n_h0_toldParts_96, n_a_tp_at_97, n_a_tp_start_98, n_a_tp_end_99, n_a_tp_sort_100, n_a_tp_sign_101, n_a_tp_faultSort_102, n_a_tp_faultPlace_103, g_a_fo_104, hp_105, hp_106, hp_107, hp_108, hp_109, hp_110, hp_111, hp_112, hp_113, hP1, hK1, hD1⟩ := hB
              rw [ht] at hP1
              have hK1 := va_K.moved hvm.symm hK1
              obtain ⟨hP, hD⟩ := z_ap_0 (va_join (wr := []) hP hD [1, 2, 3, 4, 0] [] rfl rfl (by decide) (by decide) hk1 hFc hP1 hD1)
              clear hPc hDc hKc
              rcases hw_95 with ⟨rfl, hw_95⟩ | ⟨rfl, hw_95⟩
              · have hw_95 : True := hw_95
                have hp_108 : (n_a_tp_at_97.toInt = n_a_tp_end_99.toInt ∧ n_a_tp_end_99.toInt ≤ tt.toInt ∧ n_a_tp_start_98.toInt ≤ n_a_tp_end_99.toInt ∧ v_72.toInt + 1 ≤ n_a_tp_start_98.toInt) := hp_108 rfl
                have hp_109 : f_C fa_tb tt.toInt n_a_tp_sort_100.toInt n_a_tp_sign_101.toInt n_a_tp_start_98.toInt n_a_tp_end_99.toInt := hp_109 rfl
                have hp_110 : f_pg n_a_tp_sort_100.toInt n_a_tp_start_98.toInt n_a_tp_end_99.toInt := hp_110 rfl
                have hp_111 : (f_E fa_tb tt.toInt pk.toInt 3 v_70 v_72.toInt ↔ f_E fa_tb tt.toInt pk.toInt 5 n_h0_toldParts_96 n_a_tp_start_98.toInt) := hp_111 rfl
                have hp_113 : (v_72.toInt + 2 ≤ n_a_tp_start_98.toInt) := hp_113 rfl
                refine lv_if_ne (tgt := 48) hx hb dX1_readFind_43 (by decide) (fun _ => ?_) (fun c_114 => absurd c_114 (by decide))
                have hE_115 := hF_85.trans hp_111
                refine lv_aload_n hx hb dX1_readFind_48 rfl (lv_at hl 1 rfl) ?_
                refine va_get (D := (dC, dI)) (ci := 1) (v := .ref a_tp) (C := RX1) (T := TX1) (N := 6) hx hb hts hiX1 hown hK hP 0 rfl rfl 0 (by decide) w__fieldLink_RX1_24_ShellHeap_FindsReader_tape_LShellHeap_Tape_ (fun _ h9 => h9) rfl dX1_readFind_49 ?_
                refine va_get (D := (dC, dI)) (ci := 10) (v := .int n_a_tp_sign_101) (C := RX10) (T := TX10) (N := 11) hx hb hts hiX10 hown hK hP 1 rfl rfl 8 (by decide) w__fieldLink_RX1_59_ShellHeap_Tape_sign_I_ (fun _ h9 => h9) rfl dX1_readFind_52 ?_
                refine lv_bipush (v := 44) hx hb dX1_readFind_55 (by decide) ?_
                refine lv_icmp_eq (tgt := 62) hx hb dX1_readFind_57 (by decide) (fun c_116 => ?_) (fun c_116 => ?_)
                · have k_117 : (n_a_tp_sign_101).toInt = (44 : Int) := z_eq c_116
                  obtain rfl : n_a_tp_sign_101 = 44 := z_eq' (show (n_a_tp_sign_101).toInt = (44 : Int) by omega)
                  refine lv_aload_n hx hb dX1_readFind_62 rfl (lv_at hl 1 rfl) ?_
                  refine va_get (D := (dC, dI)) (ci := 1) (v := .ref a_tp) (C := RX1) (T := TX1) (N := 6) hx hb hts hiX1 hown hK hP 0 rfl rfl 0 (by decide) w__fieldLink_RX1_24_ShellHeap_FindsReader_tape_LShellHeap_Tape_ (fun _ h9 => h9) rfl dX1_readFind_63 ?_
                  obtain ⟨hPc, hDc, hFc⟩ := z_sub3 (ws' := [(a_tp, .inr (10, [.ref a_tb, .int tt, .int n_a_tp_at_97, .int 1, .int tf, .int n_a_tp_start_98, .int n_a_tp_end_99, .int n_a_tp_sort_100, .int 44, .int n_a_tp_faultSort_102, .int n_a_tp_faultPlace_103])), (a_tb, .inl (ca_tb, 700, .inl fa_tb))]) hP hD hS hA [1, 2] (by decide) rfl
                  have hKc := hK.sub (tys' := [(ca_tb, .int)]) [0] rfl
                  refine va_callv (va_runV (As := []) (rest := []) ⟨hx, hb, hml, hown, hts⟩ (s_X10_next3 l dC dI H_93.size a_tp a_tb tt n_a_tp_at_97 tf n_a_tp_start_98 n_a_tp_end_99 n_a_tp_sort_100 44 n_a_tp_faultSort_102 n_a_tp_faultPlace_103 ca_tb fa_tb hB_tt hp_105 hB_tf hp_106 hp_107 hI_a_tb (by first | omega | decide)) (cwV 0 hts gw_s_X1_readFind3_s_X10_next3_62 rfl rfl rfl (by decide +kernel) ⟨Nat.le_of_ble_eq_true rfl, Nat.le_of_ble_eq_true rfl⟩) ⟨z_blind, va_recv hKc hPc (ci := 10) (q0 := 0) rfl rfl, z_pre hPc hKc hDc⟩ rfl rfl hl.1 rfl (lv_room (Nat.le_of_ble_eq_true rfl)) dX1_readFind_66 ⟨Nat.le_of_ble_eq_true rfl, Nat.le_of_ble_eq_true rfl⟩) hS (fun q _ h => hFc q h) hFc (fun u t H_119 locs ht hvm hw_121 hB hz1 hk1 hS => ?_)
                  obtain ⟨n_h0_at_122, n_h0_start_123, n_h0_end_124, n_h0_sort_125, n_h0_sign_126, hp_127, hp_128, hp_129, hp_130, hp_131, hp_132, hp_133, hP1, hK1, hD1⟩ := hB
                  rw [ht] at hP1
                  have hK1 := va_K.moved hvm.symm hK1
                  obtain ⟨hP, hD⟩ := z_ap_3 (va_join (wr := [(h0, .inr (1, [.ref a_tp, .ref a_pa, .int fn, .int n_h0_kind_4, .int n_h0_sieve_26, .int n_h0_toldParts_96])), (a_pa, .inr (5, [a_pa_0, a_pa_1, .ref a_fo, a_pa_3, a_pa_4, a_pa_5, a_pa_6, a_pa_7, a_pa_8, .int pk])), (a_fo, .inl (ca_fo, 11520, .inl g_a_fo_104))]) hP hD [1, 2] [0, 3, 4] rfl rfl (by decide) (by decide) hk1 hFc hP1 hD1)
                  have hp_130 : f_run f_bl fa_tb tt.toInt n_a_tp_at_97.toInt n_h0_start_123.toInt := hp_130
                  have hp_131 : f_C fa_tb tt.toInt n_h0_sort_125.toInt n_h0_sign_126.toInt n_h0_start_123.toInt n_h0_end_124.toInt := hp_131
                  have hp_132 : n_h0_at_122.toInt = n_h0_end_124.toInt ∧ n_h0_end_124.toInt ≤ tt.toInt ∧ n_h0_start_123.toInt ≤ n_h0_end_124.toInt := hp_132
                  have hp_133 : f_pg n_h0_sort_125.toInt n_h0_start_123.toInt n_h0_end_124.toInt := hp_133
                  clear hPc hDc hKc
                  have hge_134 := hp_130.2.1
                  have hlt_135 := f_tk_lt hp_109 hp_110 (f_tk_sig hp_109 (Or.inr (Or.inr ⟨by first | omega | decide, rfl⟩))) (by decide)
                  have hE_136 := hE_115.trans ((f_E5c (f_tk_sig hp_109 (Or.inr (Or.inr ⟨by first | omega | decide, rfl⟩))) rfl).trans (f_E_sk hp_130 (by omega)))
                  obtain ⟨z_137, ez_137⟩ : ∃ y : Int32, y = i_69 + 1 := ⟨_, rfl⟩
                  have kz_137 : (z_137).toInt = (i_69).toInt + (1 : Int) := by rw [ez_137]; exact z_add (b := 1) rfl rfl (z_al hF_79.1 (by decide)) (z_ah hF_79.2 (by decide))
                  refine lv_iinc (v := z_137) (lv' := [(1, .int z_137), (0, .ref h0)]) hx hb dX1_readFind_69 hl (k := 0) rfl (by rw [ez_137]; rfl) (by decide) rfl (fun ls hl => ?_)
                  refine lv_goto (tgt := 32) hx hb dX1_readFind_72 (by decide) ?_
                  exact ih_68 z_137 n_h0_toldParts_96 n_h0_at_122 n_h0_start_123 n_h0_end_124 n_h0_sort_125 n_h0_sign_126 n_a_tp_faultSort_102 n_a_tp_faultPlace_103 g_a_fo_104 _ _ _ (show (701 - (z_137).toInt).toNat < n_67 by omega) (show ((0 : Int) ≤ (z_137).toInt ∧ (z_137).toInt ≤ (700 : Int)) by omega) (show ((0 : Int) ≤ (n_h0_at_122).toInt ∧ (n_h0_at_122).toInt ≤ (700 : Int)) by omega) (show ((0 : Int) ≤ (n_h0_start_123).toInt ∧ (n_h0_start_123).toInt ≤ (700 : Int)) by omega) (show ((0 : Int) ≤ (n_h0_end_124).toInt ∧ (n_h0_end_124).toInt ≤ (700 : Int)) by omega) (show f_C fa_tb (tt).toInt (n_h0_sort_125).toInt (n_h0_sign_126).toInt (n_h0_start_123).toInt (n_h0_end_124).toInt from hp_131) (show f_pg (n_h0_sort_125).toInt (n_h0_start_123).toInt (n_h0_end_124).toInt from hp_133) (show (f_E fa_tb (tt).toInt (pk).toInt 0 0 (ts).toInt ↔ f_E fa_tb (tt).toInt (pk).toInt 3 n_h0_toldParts_96 (n_h0_start_123).toInt) from hE_136) (show (n_h0_at_122).toInt = (n_h0_end_124).toInt ∧ (n_h0_end_124).toInt ≤ (tt).toInt ∧ (n_h0_start_123).toInt ≤ (n_h0_end_124).toInt by omega) (show 2 * (z_137).toInt ≤ (n_h0_start_123).toInt by omega) (show (ts).toInt + 1 ≤ (n_h0_start_123).toInt by omega) (hP.sub (ws' := [(a_fo, .inl (ca_fo, 11520, .inl g_a_fo_104)), (h0, .inr (1, [.ref a_tp, .ref a_pa, .int fn, .int n_h0_kind_4, .int n_h0_sieve_26, .int n_h0_toldParts_96])), (a_tp, .inr (10, [.ref a_tb, .int tt, .int n_h0_at_122, .int 1, .int tf, .int n_h0_start_123, .int n_h0_end_124, .int n_h0_sort_125, .int n_h0_sign_126, .int n_a_tp_faultSort_102, .int n_a_tp_faultPlace_103])), (a_tb, .inl (ca_tb, 700, .inl fa_tb)), (a_pa, .inr (5, [a_pa_0, a_pa_1, .ref a_fo, a_pa_3, a_pa_4, a_pa_5, a_pa_6, a_pa_7, a_pa_8, .int pk]))]) [2, 0, 3, 4, 1] rfl) (hD.sub (ws' := [(a_fo, .inl (ca_fo, 11520, .inl g_a_fo_104)), (h0, .inr (1, [.ref a_tp, .ref a_pa, .int fn, .int n_h0_kind_4, .int n_h0_sieve_26, .int n_h0_toldParts_96])), (a_tp, .inr (10, [.ref a_tb, .int tt, .int n_h0_at_122, .int 1, .int tf, .int n_h0_start_123, .int n_h0_end_124, .int n_h0_sort_125, .int n_h0_sign_126, .int n_a_tp_faultSort_102, .int n_a_tp_faultPlace_103])), (a_tb, .inl (ca_tb, 700, .inl fa_tb)), (a_pa, .inr (5, [a_pa_0, a_pa_1, .ref a_fo, a_pa_3, a_pa_4, a_pa_5, a_pa_6, a_pa_7, a_pa_8, .int pk]))]) [2, 0, 3, 4, 1] (by decide) rfl) hS (lv_sub hl [0, 1] rfl)
                · have k_138 : (n_a_tp_sign_101).toInt ≠ (44 : Int) := z_ne c_116
                  refine lv_iconst (v := 1) hx hb dX1_readFind_60 (by decide) ?_
                  refine z_backQ hQQ ?_
                  have hP9 := hP
                  have hD9 := hD
                  have hK9 := hK.sub (tys' := []) [] rfl
                  refine W.widen (k := 0) (n := 0) (Nat.le_of_ble_eq_true rfl) (Nat.le_of_ble_eq_true rfl) ?_
                  exact W.zret (v := 1) hx hb hr (by rfl) (fun t ht hW => ⟨⟨1, 1, rfl, ⟨rfl, (Or.inl (⟨rfl, trivial⟩))⟩, ⟨n_h0_kind_4, n_h0_sieve_26, n_h0_toldParts_96, n_a_tp_at_97, n_a_tp_start_98, n_a_tp_end_99, n_a_tp_sort_100, n_a_tp_sign_101, n_a_tp_faultSort_102, n_a_tp_faultPlace_103, g_a_fo_104, hp_105, hp_106, hp_107, (fun _ => (show (n_a_tp_at_97.toInt = n_a_tp_end_99.toInt ∧ n_a_tp_end_99.toInt ≤ tt.toInt ∧ n_a_tp_start_98.toInt ≤ n_a_tp_end_99.toInt ∧ ts.toInt + 1 ≤ n_a_tp_start_98.toInt) by omega)), (fun _ => (show f_C fa_tb tt.toInt n_a_tp_sort_100.toInt n_a_tp_sign_101.toInt n_a_tp_start_98.toInt n_a_tp_end_99.toInt from hp_109)), (fun _ => (show f_pg n_a_tp_sort_100.toInt n_a_tp_start_98.toInt n_a_tp_end_99.toInt from hp_110)), (fun _ => (show (f_E fa_tb tt.toInt pk.toInt 0 0 ts.toInt ↔ f_E fa_tb tt.toInt pk.toInt 5 n_h0_toldParts_96 n_a_tp_start_98.toInt) from hE_115)), (fun h9 => absurd h9 (by decide)), (fun _ => (show (n_a_tp_sign_101.toInt ≠ 44) by omega)), by rw [ht]; exact hP9, va_K.moved hW.alike hK9, hD9⟩⟩, hS.F ht⟩) hS.2.2 dX1_readFind_61
              · have hw_95 : True := hw_95
                have hp_112 : ¬ f_E fa_tb tt.toInt pk.toInt 3 v_70 v_72.toInt := hp_112 rfl
                refine lv_if_ne (tgt := 48) hx hb dX1_readFind_43 (by decide) (fun c_139 => absurd c_139 (by decide)) (fun _ => ?_)
                refine lv_iconst (v := 0) hx hb dX1_readFind_46 (by decide) ?_
                refine z_backQ hQQ ?_
                have hP9 := hP
                have hD9 := hD
                have hK9 := hK.sub (tys' := []) [] rfl
                refine W.widen (k := 0) (n := 0) (Nat.le_of_ble_eq_true rfl) (Nat.le_of_ble_eq_true rfl) ?_
                exact W.zret (v := 0) hx hb hr (by rfl) (fun t ht hW => ⟨⟨0, 0, rfl, ⟨rfl, (Or.inr (⟨rfl, trivial⟩))⟩, ⟨n_h0_kind_4, n_h0_sieve_26, n_h0_toldParts_96, n_a_tp_at_97, n_a_tp_start_98, n_a_tp_end_99, n_a_tp_sort_100, n_a_tp_sign_101, n_a_tp_faultSort_102, n_a_tp_faultPlace_103, g_a_fo_104, hp_105, hp_106, hp_107, (fun h9 => absurd h9 (by decide)), (fun h9 => absurd h9 (by decide)), (fun h9 => absurd h9 (by decide)), (fun h9 => absurd h9 (by decide)), (fun _ => (show ¬ f_E fa_tb tt.toInt pk.toInt 0 0 ts.toInt from f_not hF_85 hp_112)), (fun h9 => absurd h9 (by decide)), by rw [ht]; exact hP9, va_K.moved hW.alike hK9, hD9⟩⟩, hS.F ht⟩) hS.2.2 dX1_readFind_47
        exact loop_66 _ 0 0 n_a_tp_at_48 n_a_tp_start_49 n_a_tp_end_50 n_a_tp_sort_51 n_a_tp_sign_52 n_a_tp_faultSort_53 n_a_tp_faultPlace_54 fa_fo _ _ _ (Nat.lt_succ_self _) (show ((0 : Int) ≤ (0 : Int) ∧ (0 : Int) ≤ (700 : Int)) by omega) (show ((0 : Int) ≤ (n_a_tp_at_48).toInt ∧ (n_a_tp_at_48).toInt ≤ (700 : Int)) by omega) (show ((0 : Int) ≤ (n_a_tp_start_49).toInt ∧ (n_a_tp_start_49).toInt ≤ (700 : Int)) by omega) (show ((0 : Int) ≤ (n_a_tp_end_50).toInt ∧ (n_a_tp_end_50).toInt ≤ (700 : Int)) by omega) (show f_C fa_tb (tt).toInt (n_a_tp_sort_51).toInt (n_a_tp_sign_52).toInt (n_a_tp_start_49).toInt (n_a_tp_end_50).toInt from hp_59) (show f_pg (n_a_tp_sort_51).toInt (n_a_tp_start_49).toInt (n_a_tp_end_50).toInt from hp_60) (show (f_E fa_tb (tt).toInt (pk).toInt 0 0 (ts).toInt ↔ f_E fa_tb (tt).toInt (pk).toInt 3 0 (n_a_tp_start_49).toInt) from hE_64) (show (n_a_tp_at_48).toInt = (n_a_tp_end_50).toInt ∧ (n_a_tp_end_50).toInt ≤ (tt).toInt ∧ (n_a_tp_start_49).toInt ≤ (n_a_tp_end_50).toInt by omega) (show 2 * (0 : Int) ≤ (n_a_tp_start_49).toInt by omega) (show (ts).toInt + 1 ≤ (n_a_tp_start_49).toInt by omega) hP hD hS hl
      · have hw_47 : True := hw_47
        have hp_62 : ¬ f_E fa_tb tt.toInt pk.toInt 2 0 n_a_tp_start_28.toInt := hp_62 rfl
        refine lv_if_ne (tgt := 25) hx hb dX1_readFind_20 (by decide) (fun c_140 => absurd c_140 (by decide)) (fun _ => ?_)
        refine lv_iconst (v := 0) hx hb dX1_readFind_23 (by decide) ?_
        refine z_backQ hQQ ?_
        obtain ⟨hP9, hD9⟩ := z_sub2 (ws' := [(h0, .inr (1, [.ref a_tp, .ref a_pa, .int fn, .int n_h0_kind_4, .int n_h0_sieve_26, .int fp])), (a_tp, .inr (10, [.ref a_tb, .int tt, .int n_a_tp_at_48, .int 1, .int tf, .int n_a_tp_start_49, .int n_a_tp_end_50, .int n_a_tp_sort_51, .int n_a_tp_sign_52, .int n_a_tp_faultSort_53, .int n_a_tp_faultPlace_54])), (a_tb, .inl (ca_tb, 700, .inl fa_tb)), (a_pa, .inr (5, [a_pa_0, a_pa_1, .ref a_fo, a_pa_3, a_pa_4, a_pa_5, a_pa_6, a_pa_7, a_pa_8, .int pk])), (a_fo, .inl (ca_fo, 11520, .inl fa_fo))]) hP hD [1, 2, 3, 4, 0] (by decide) rfl
        have hK9 := hK.sub (tys' := []) [] rfl
        refine W.widen (k := 0) (n := 0) (Nat.le_of_ble_eq_true rfl) (Nat.le_of_ble_eq_true rfl) ?_
        exact W.zret (v := 0) hx hb hr (by rfl) (fun t ht hW => ⟨⟨0, 0, rfl, ⟨rfl, (Or.inr (⟨rfl, trivial⟩))⟩, ⟨n_h0_kind_4, n_h0_sieve_26, fp, n_a_tp_at_48, n_a_tp_start_49, n_a_tp_end_50, n_a_tp_sort_51, n_a_tp_sign_52, n_a_tp_faultSort_53, n_a_tp_faultPlace_54, fa_fo, hp_55, hp_56, hp_57, (fun h9 => absurd h9 (by decide)), (fun h9 => absurd h9 (by decide)), (fun h9 => absurd h9 (by decide)), (fun h9 => absurd h9 (by decide)), (fun _ => (show ¬ f_E fa_tb tt.toInt pk.toInt 0 0 ts.toInt from f_not hE_44 hp_62)), (fun h9 => absurd h9 (by decide)), by rw [ht]; exact hP9, va_K.moved hW.alike hK9, hD9⟩⟩, hS.F ht⟩) hS.2.2 dX1_readFind_24
    · have hw_25 : True := hw_25
      have hp_42 : ¬ f_E fa_tb tt.toInt pk.toInt 1 0 n_a_tp_start_6.toInt := hp_42 rfl
      refine lv_if_eq (tgt := 23) hx hb dX1_readFind_11 (by decide) (fun _ => ?_) (fun c_141 => absurd (by decide) c_141)
      refine lv_iconst (v := 0) hx hb dX1_readFind_23 (by decide) ?_
      refine z_backQ hQQ ?_
      obtain ⟨hP9, hD9⟩ := z_sub2 (ws' := [(h0, .inr (1, [.ref a_tp, .ref a_pa, .int fn, .int n_h0_kind_4, .int n_h0_sieve_26, .int fp])), (a_tp, .inr (10, [.ref a_tb, .int tt, .int n_a_tp_at_27, .int 1, .int tf, .int n_a_tp_start_28, .int n_a_tp_end_29, .int n_a_tp_sort_30, .int n_a_tp_sign_31, .int n_a_tp_faultSort_32, .int n_a_tp_faultPlace_33])), (a_tb, .inl (ca_tb, 700, .inl fa_tb)), (a_pa, .inr (5, [a_pa_0, a_pa_1, .ref a_fo, a_pa_3, a_pa_4, a_pa_5, a_pa_6, a_pa_7, a_pa_8, .int pk])), (a_fo, .inl (ca_fo, 11520, .inl fa_fo))]) hP hD [1, 2, 3, 4, 0] (by decide) rfl
      have hK9 := hK.sub (tys' := []) [] rfl
      refine W.widen (k := 0) (n := 0) (Nat.le_of_ble_eq_true rfl) (Nat.le_of_ble_eq_true rfl) ?_
      exact W.zret (v := 0) hx hb hr (by rfl) (fun t ht hW => ⟨⟨0, 0, rfl, ⟨rfl, (Or.inr (⟨rfl, trivial⟩))⟩, ⟨n_h0_kind_4, n_h0_sieve_26, fp, n_a_tp_at_27, n_a_tp_start_28, n_a_tp_end_29, n_a_tp_sort_30, n_a_tp_sign_31, n_a_tp_faultSort_32, n_a_tp_faultPlace_33, fa_fo, hp_34, hp_35, hp_36, (fun h9 => absurd h9 (by decide)), (fun h9 => absurd h9 (by decide)), (fun h9 => absurd h9 (by decide)), (fun h9 => absurd h9 (by decide)), (fun _ => (show ¬ f_E fa_tb tt.toInt pk.toInt 0 0 ts.toInt from f_not hE_22 hp_42)), (fun h9 => absurd h9 (by decide)), by rw [ht]; exact hP9, va_K.moved hW.alike hK9, hD9⟩⟩, hS.F ht⟩) hS.2.2 dX1_readFind_24
  · have hw_3 : True := hw_3
    have hp_20 : ¬ f_E fa_tb tt.toInt pk.toInt 0 0 ts.toInt := hp_20 rfl
    refine lv_if_eq (tgt := 23) hx hb dX1_readFind_4 (by decide) (fun _ => ?_) (fun c_142 => absurd (by decide) c_142)
    refine lv_iconst (v := 0) hx hb dX1_readFind_23 (by decide) ?_
    refine z_backQ hQQ ?_
    obtain ⟨hP9, hD9⟩ := z_sub2 (ws' := [(h0, .inr (1, [.ref a_tp, .ref a_pa, .int fn, .int n_h0_kind_4, .int fs, .int fp])), (a_tp, .inr (10, [.ref a_tb, .int tt, .int n_a_tp_at_5, .int 1, .int tf, .int n_a_tp_start_6, .int n_a_tp_end_7, .int n_a_tp_sort_8, .int n_a_tp_sign_9, .int n_a_tp_faultSort_10, .int n_a_tp_faultPlace_11])), (a_tb, .inl (ca_tb, 700, .inl fa_tb)), (a_pa, .inr (5, [a_pa_0, a_pa_1, .ref a_fo, a_pa_3, a_pa_4, a_pa_5, a_pa_6, a_pa_7, a_pa_8, .int pk])), (a_fo, .inl (ca_fo, 11520, .inl fa_fo))]) hP hD [1, 2, 3, 4, 0] (by decide) rfl
    have hK9 := hK.sub (tys' := []) [] rfl
    refine W.widen (k := 0) (n := 0) (Nat.le_of_ble_eq_true rfl) (Nat.le_of_ble_eq_true rfl) ?_
    exact W.zret (v := 0) hx hb hr (by rfl) (fun t ht hW => ⟨⟨0, 0, rfl, ⟨rfl, (Or.inr (⟨rfl, trivial⟩))⟩, ⟨n_h0_kind_4, fs, fp, n_a_tp_at_5, n_a_tp_start_6, n_a_tp_end_7, n_a_tp_sort_8, n_a_tp_sign_9, n_a_tp_faultSort_10, n_a_tp_faultPlace_11, fa_fo, hp_12, hp_13, hp_14, (fun h9 => absurd h9 (by decide)), (fun h9 => absurd h9 (by decide)), (fun h9 => absurd h9 (by decide)), (fun h9 => absurd h9 (by decide)), (fun _ => (show ¬ f_E fa_tb tt.toInt pk.toInt 0 0 ts.toInt from hp_20)), (fun h9 => absurd h9 (by decide)), by rw [ht]; exact hP9, va_K.moved hW.alike hK9, hD9⟩⟩, hS.F ht⟩) hS.2.2 dX1_readFind_24
