def u_s_X1_passSign : List Cond := .code yX1_passSign cX1_passSign 2 (some .boolean) :: ([.fieldLink RX1 24 "ShellHeap$FindsReader" "tape" "LShellHeap$Tape;", .fieldLink RX1 59 "ShellHeap$Tape" "sign" "I", .methodLink RX1 62 yX10_next, .instanceMethod yX10_next, .selects RX10 yX10_next yX10_next, .initialized RX10, .methodLink RX1 55 yX10_fail, .instanceMethod yX10_fail, .selects RX10 yX10_fail yX10_fail] ++ (wsX10 ++ (wsX100 ++ (u_s_X10_next2 ++ (u_s_X10_fail ++ [])))))
theorem gd_s_X1_passSign : z_gd u_s_X1_passSign := z_gdc (by decide +kernel) (z_gda gdX1 (z_gda gdX10 (z_gda gd_s_X10_next2 (z_gda gd_s_X10_fail (z_gd0)))))
set_option maxRecDepth 20000 in
theorem gw_s_X1_passSign_s_X10_next2_62 : GoodIn u_s_X1_passSign (wsV RX1 62 RX10 yX10_next u_s_X10_next2) := z_gV (z_gr _ [3, 4, 5, 6] rfl (by decide +kernel)) (fun w h => ⟨z_mc (z_mr (z_mr (z_mr (z_ml h)))), gd_s_X10_next2 w h⟩)
set_option maxRecDepth 20000 in
theorem gw_s_X1_passSign_s_X10_fail_55 : GoodIn u_s_X1_passSign (wsV RX1 55 RX10 yX10_fail u_s_X10_fail) := z_gV (z_gr _ [7, 8, 9, 6] rfl (by decide +kernel)) (fun w h => ⟨z_mc (z_mr (z_mr (z_mr (z_mr (z_ml h))))), gd_s_X10_fail w h⟩)
set_option maxHeartbeats 4000000 in
set_option maxRecDepth 100000 in
theorem s_X1_passSign (l : Launch) (dC : Nat → ClassId) (dI : Nat → Nat → Nat) (sz : Nat) (sd : Nat → Nat) (sv : Nat → Nat) (sf : Value) (h0 : Nat) (p1 : Int32) (a_tp : Nat) (a_pa : Nat) (fn : Int32) (fk : Int32) (fs : Int32) (fp : Int32) (a_tb : Nat) (tt : Int32) (ta : Int32) (tj : Int32) (tf : Int32) (ts : Int32) (te : Int32) (to : Int32) (tg : Int32) (tx : Int32) (ty : Int32) (ca_tb : ClassId) (fa_tb : Nat → Int32) (hB_tt : ((0 : Int) ≤ (tt).toInt ∧ (tt).toInt ≤ (700 : Int))) (hB_ta : ((0 : Int) ≤ (ta).toInt ∧ (ta).toInt ≤ (700 : Int))) (hB_tf : ((0 : Int) ≤ (tf).toInt ∧ (tf).toInt ≤ (700 : Int))) (hB_ts : ((0 : Int) ≤ (ts).toInt ∧ (ts).toInt ≤ (700 : Int))) (hB_te : ((0 : Int) ≤ (te).toInt ∧ (te).toInt ≤ (700 : Int))) (hI_a_tb : ∀ j : Nat, ((0 : Int) ≤ (fa_tb j).toInt ∧ (fa_tb j).toInt ≤ (255 : Int))) (hTok : (to.toInt = (1 : Int) → z_tok fa_tb ts.toInt te.toInt ∧ te.toInt ≤ tt.toInt)) (hle : ta.toInt ≤ tt.toInt) : Met l yX1_passSign u_s_X1_passSign ({ frames := 3, cells := 0, slots := 0, locals := 61 }) (va_Pc [.ref h0, .int p1] (z_CS (dC, dI) vwCl [(h0, .inr (1, [.ref a_tp, .ref a_pa, .int fn, .int fk, .int fs, .int fp])), (a_tp, .inr (10, [.ref a_tb, .int tt, .int ta, .int tj, .int tf, .int ts, .int te, .int to, .int tg, .int tx, .int ty])), (a_tb, .inl (ca_tb, 700, .inl fa_tb))] [(ca_tb, .int)] sz sd sv sf [(h0, .inr (1, [.ref a_tp, .ref a_pa, .int fn, .int fk, .int fs, .int fp])), (a_tp, .inr (10, [.ref a_tb, .int tt, .int ta, .int tj, .int tf, .int ts, .int te, .int to, .int tg, .int tx, .int ty])), (a_tb, .inl (ca_tb, 700, .inl fa_tb))])) (va_Qi (fun (r : Int32) (_ : Unit) => (r = 1 ∧ True) ∨ (r = 0 ∧ True)) (fun (_ : Unit) (t : State) => ∃ (n_a_tp_at : Int32), ∃ (n_a_tp_start : Int32), ∃ (n_a_tp_end : Int32), ∃ (n_a_tp_sort : Int32), ∃ (n_a_tp_sign : Int32), ∃ (n_a_tp_faultSort : Int32), ∃ (n_a_tp_faultPlace : Int32), ((0 : Int) ≤ (n_a_tp_at).toInt ∧ (n_a_tp_at).toInt ≤ (700 : Int)) ∧ ((0 : Int) ≤ (n_a_tp_start).toInt ∧ (n_a_tp_start).toInt ≤ (700 : Int)) ∧ ((0 : Int) ≤ (n_a_tp_end).toInt ∧ (n_a_tp_end).toInt ≤ (700 : Int)) ∧ ((n_a_tp_sort.toInt = (1 : Int) → z_tok fa_tb n_a_tp_start.toInt n_a_tp_end.toInt ∧ n_a_tp_end.toInt ≤ tt.toInt)) ∧ (n_a_tp_at.toInt ≤ tt.toInt) ∧ va_P (dC, dI) vwCl [(h0, .inr (1, [.ref a_tp, .ref a_pa, .int fn, .int fk, .int fs, .int fp])), (a_tp, .inr (10, [.ref a_tb, .int tt, .int n_a_tp_at, .int tj, .int tf, .int n_a_tp_start, .int n_a_tp_end, .int n_a_tp_sort, .int n_a_tp_sign, .int n_a_tp_faultSort, .int n_a_tp_faultPlace])), (a_tb, .inl (ca_tb, 700, .inl fa_tb))] t.heap ∧ va_K (dC, dI) vwCl [] t ∧ va_D (va_A [(h0, .inr (1, [.ref a_tp, .ref a_pa, .int fn, .int fk, .int fs, .int fp])), (a_tp, .inr (10, [.ref a_tb, .int tt, .int ta, .int tj, .int tf, .int ts, .int te, .int to, .int tg, .int tx, .int ty])), (a_tb, .inl (ca_tb, 700, .inl fa_tb))] sz) [(h0, .inr (1, [.ref a_tp, .ref a_pa, .int fn, .int fk, .int fs, .int fp])), (a_tp, .inr (10, [.ref a_tb, .int tt, .int n_a_tp_at, .int tj, .int tf, .int n_a_tp_start, .int n_a_tp_end, .int n_a_tp_sort, .int n_a_tp_sign, .int n_a_tp_faultSort, .int n_a_tp_faultPlace])), (a_tb, .inl (ca_tb, 700, .inl fa_tb))]) (va_A [(h0, .inr (1, [.ref a_tp, .ref a_pa, .int fn, .int fk, .int fs, .int fp])), (a_tp, .inr (10, [.ref a_tb, .int tt, .int ta, .int tj, .int tf, .int ts, .int te, .int to, .int tg, .int tx, .int ty])), (a_tb, .inl (ca_tb, 700, .inl fa_tb))] sz)) 0 0 (va_A [(h0, .inr (1, [.ref a_tp, .ref a_pa, .int fn, .int fk, .int fs, .int fp])), (a_tp, .inr (10, [.ref a_tb, .int tt, .int ta, .int tj, .int tf, .int ts, .int te, .int to, .int tg, .int tx, .int ty])), (a_tb, .inl (ca_tb, 700, .inl fa_tb))] sz) := by
  refine Met.ofW (cc := cX1_passSign) (maxL := 2) (ret := (some .boolean)) (by decide) rfl ?_
  intro p e s m args below meth c s₁ B hml hv
  obtain ⟨rfl, ⟨hsz, hP, hK, hD0⟩, hST⟩ := hv
  have hx := B.exec
  have hb := B.bytes
  have hr := B.returns
  have hts := atoms_spec (ws := u_s_X1_passSign) B.pre
  have hown : s.vm.findClass RX1 = some m.cls := findClass_of_methodNamed B.named
  have hlocks := B.notSynchronized
  subst hsz
  have hD := hD0.self (sz := s.heap.size)
  generalize hAe : va_A [(h0, .inr (1, [.ref a_tp, .ref a_pa, .int fn, .int fk, .int fs, .int fp])), (a_tp, .inr (10, [.ref a_tb, .int tt, .int ta, .int tj, .int tf, .int ts, .int te, .int to, .int tg, .int tx, .int ty])), (a_tb, .inl (ca_tb, 700, .inl fa_tb))] s.heap.size = A at hD hST ⊢
  have hA : ∀ q : Nat, s.heap.size ≤ q → A q := fun q h => by rw [← hAe]; exact Or.inr h
  have hS : va_S A s.heap s.heap [] := va_S.rf
  have hP : va_P (dC, dI) vwCl [(h0, .inr (1, [.ref a_tp, .ref a_pa, .int fn, .int fk, .int fs, .int fp])), (a_tp, .inr (10, [.ref a_tb, .int tt, .int ta, .int tj, .int tf, .int ts, .int te, .int to, .int tg, .int tx, .int ty])), (a_tb, .inl (ca_tb, 700, .inl fa_tb))] s.heap := hP
  have w__fieldLink_RX1_24_ShellHeap_FindsReader_tape_LShellHeap_Tape_ := hts (.fieldLink RX1 24 "ShellHeap$FindsReader" "tape" "LShellHeap$Tape;") (z_mc (z_ml z_m0))
  have hiX1 := show ∀ w ∈ u_ws RX1 TX1 6, w ∈ u_s_X1_passSign from fun w h => z_mc (z_mr (z_ml h))
  have w__fieldLink_RX1_59_ShellHeap_Tape_sign_I_ := hts (.fieldLink RX1 59 "ShellHeap$Tape" "sign" "I") (z_mc (z_ml z_m1))
  have hiX10 := show ∀ w ∈ u_ws RX10 TX10 11, w ∈ u_s_X1_passSign from fun w h => z_mc (z_mr (z_mr (z_ml h)))
  have krr_p1 := z_rng p1
  have hl := lv_entry ([.ref h0, .int p1]) (n := 2) (Nat.le_of_ble_eq_true rfl)
  rw [lg_entry_eq]
  generalize (lg_sl ([.ref h0, .int p1]) ++ List.replicate (2 - (lg_sl ([.ref h0, .int p1])).length) Slot.unset).toArray = ls at hl ⊢
  have hl : lv_has ls 2 [(0, .ref h0), (1, .int p1)] := hl
  refine lv_aload_n hx hb dX1_passSign_0 rfl (lv_at hl 0 rfl) ?_
  refine va_get (D := (dC, dI)) (ci := 1) (v := .ref a_tp) (C := RX1) (T := TX1) (N := 6) hx hb hts hiX1 hown hK hP 0 rfl rfl 0 (by decide) w__fieldLink_RX1_24_ShellHeap_FindsReader_tape_LShellHeap_Tape_ (fun _ h9 => h9) rfl dX1_passSign_1 ?_
  refine va_get (D := (dC, dI)) (ci := 10) (v := .int tg) (C := RX10) (T := TX10) (N := 11) hx hb hts hiX10 hown hK hP 1 rfl rfl 8 (by decide) w__fieldLink_RX1_59_ShellHeap_Tape_sign_I_ (fun _ h9 => h9) rfl dX1_passSign_4 ?_
  refine lv_iload_n hx hb dX1_passSign_7 rfl (lv_at hl 1 rfl) ?_
  refine lv_icmp_eq (tgt := 20) hx hb dX1_passSign_8 (by decide) (fun c_1 => ?_) (fun c_1 => ?_)
  · have k_2 : (tg).toInt = (p1).toInt := z_eq c_1
    refine lv_aload_n hx hb dX1_passSign_20 rfl (lv_at hl 0 rfl) ?_
    refine va_get (D := (dC, dI)) (ci := 1) (v := .ref a_tp) (C := RX1) (T := TX1) (N := 6) hx hb hts hiX1 hown hK hP 0 rfl rfl 0 (by decide) w__fieldLink_RX1_24_ShellHeap_FindsReader_tape_LShellHeap_Tape_ (fun _ h9 => h9) rfl dX1_passSign_21 ?_
    obtain ⟨hPc, hDc, hFc⟩ := z_sub3 (ws' := [(a_tp, .inr (10, [.ref a_tb, .int tt, .int ta, .int tj, .int tf, .int ts, .int te, .int to, .int tg, .int tx, .int ty])), (a_tb, .inl (ca_tb, 700, .inl fa_tb))]) hP hD hS hA [1, 2] (by decide) rfl
    have hKc := hK
    refine va_callv (va_runV (As := []) (rest := []) ⟨hx, hb, hml, hown, hts⟩ (s_X10_next2 l dC dI s.heap.size a_tp a_tb tt ta tj tf ts te to tg tx ty ca_tb fa_tb hB_tt hB_ta hB_tf hB_ts hB_te hI_a_tb (by first | omega | decide)) (cwV 0 hts gw_s_X1_passSign_s_X10_next2_62 rfl rfl rfl (by decide +kernel) ⟨Nat.le_of_ble_eq_true rfl, Nat.le_of_ble_eq_true rfl⟩) ⟨z_blind, va_recv hKc hPc (ci := 10) (q0 := 0) rfl rfl, z_pre hPc hKc hDc⟩ rfl rfl hl.1 rfl (lv_room (Nat.le_of_ble_eq_true rfl)) dX1_passSign_24 ⟨Nat.le_of_ble_eq_true rfl, Nat.le_of_ble_eq_true rfl⟩) hS (fun q _ h => hFc q h) hFc (fun u t H_3 locs ht hvm hw_5 hB hz1 hk1 hS => ?_)
    obtain ⟨n_h0_at_6, n_h0_start_7, n_h0_end_8, n_h0_sort_9, n_h0_sign_10, hp_11, hp_12, hp_13, hp_14, hp_15, hP1, hK1, hD1⟩ := hB
    rw [ht] at hP1
    have hK1 := va_K.moved hvm.symm hK1
    obtain ⟨hP, hD⟩ := z_ap_1 (va_join (wr := [(h0, .inr (1, [.ref a_tp, .ref a_pa, .int fn, .int fk, .int fs, .int fp]))]) hP hD [1, 2] [0] rfl rfl (by decide) (by decide) hk1 hFc hP1 hD1)
    have hp_14 : (n_h0_sort_9.toInt = (1 : Int) → z_tok fa_tb n_h0_start_7.toInt n_h0_end_8.toInt ∧ n_h0_end_8.toInt ≤ tt.toInt) := hp_14
    have hp_15 : n_h0_at_6.toInt ≤ tt.toInt := hp_15
    clear hPc hDc hKc
    refine lv_iconst (v := 1) hx hb dX1_passSign_27 (by decide) ?_
    have hP9 := hP
    have hD9 := hD
    have hK9 := hK.sub (tys' := []) [] rfl
    refine W.widen (k := 0) (n := 0) (Nat.le_of_ble_eq_true rfl) (Nat.le_of_ble_eq_true rfl) ?_
    exact W.zret (v := 1) hx hb hr (by rfl) (fun t ht hW => ⟨⟨1, (), rfl, (Or.inl (⟨rfl, by first | omega | decide⟩)), ⟨n_h0_at_6, n_h0_start_7, n_h0_end_8, n_h0_sort_9, n_h0_sign_10, tx, ty, hp_11, hp_12, hp_13, hp_14, (show n_h0_at_6.toInt ≤ tt.toInt by omega), by rw [ht]; exact hP9, va_K.moved hW.alike hK9, hD9⟩⟩, hS.F ht⟩) hS.2.2 dX1_passSign_28
  · have k_16 : (tg).toInt ≠ (p1).toInt := z_ne c_1
    refine lv_aload_n hx hb dX1_passSign_11 rfl (lv_at hl 0 rfl) ?_
    refine va_get (D := (dC, dI)) (ci := 1) (v := .ref a_tp) (C := RX1) (T := TX1) (N := 6) hx hb hts hiX1 hown hK hP 0 rfl rfl 0 (by decide) w__fieldLink_RX1_24_ShellHeap_FindsReader_tape_LShellHeap_Tape_ (fun _ h9 => h9) rfl dX1_passSign_12 ?_
    refine lv_iconst (v := 1) hx hb dX1_passSign_15 (by decide) ?_
    obtain ⟨hPc, hDc, hFc⟩ := z_sub3 (ws' := [(a_tp, .inr (10, [.ref a_tb, .int tt, .int ta, .int tj, .int tf, .int ts, .int te, .int to, .int tg, .int tx, .int ty]))]) hP hD hS hA [1] (by decide) rfl
    have hKc := hK.sub (tys' := []) [] rfl
    refine va_calli (va_runV (As := [.int 1]) (rest := []) ⟨hx, hb, hml, hown, hts⟩ (s_X10_fail l dC dI s.heap.size a_tp 1 (.ref a_tb) (.int tt) (.int ta) (.int tj) (.int tf) ts (.int te) (.int to) (.int tg) tx ty hB_ts) (cwV 1 hts gw_s_X1_passSign_s_X10_fail_55 rfl rfl rfl (by decide +kernel) ⟨Nat.le_of_ble_eq_true rfl, Nat.le_of_ble_eq_true rfl⟩) ⟨z_blind, va_recv hKc hPc (ci := 10) (q0 := 0) rfl rfl, z_pre hPc hKc hDc⟩ rfl rfl hl.1 rfl (lv_room (Nat.le_of_ble_eq_true rfl)) dX1_passSign_16 ⟨Nat.le_of_ble_eq_true rfl, Nat.le_of_ble_eq_true rfl⟩) hS (fun q _ h => hFc q h) hFc (fun r_18 u t H_17 locs ht hvm hw_19 hB hz1 hk1 hS => ?_)
    obtain ⟨n_h0_faultSort_20, n_h0_faultPlace_21, hP1, hK1, hD1⟩ := hB
    rw [ht] at hP1
    have hK1 := va_K.moved hvm.symm hK1
    obtain ⟨hP, hD⟩ := z_ap_2 (va_join (wr := [(h0, .inr (1, [.ref a_tp, .ref a_pa, .int fn, .int fk, .int fs, .int fp])), (a_tb, .inl (ca_tb, 700, .inl fa_tb))]) hP hD [1] [0, 2] rfl rfl (by decide) (by decide) hk1 hFc hP1 hD1)
    clear hPc hDc hKc
    obtain rfl : r_18 = 0 := hw_19
    obtain ⟨hP9, hD9⟩ := z_sub2 (ws' := [(h0, .inr (1, [.ref a_tp, .ref a_pa, .int fn, .int fk, .int fs, .int fp])), (a_tp, .inr (10, [.ref a_tb, .int tt, .int ta, .int tj, .int tf, .int ts, .int te, .int to, .int tg, .int n_h0_faultSort_20, .int n_h0_faultPlace_21])), (a_tb, .inl (ca_tb, 700, .inl fa_tb))]) hP hD [0, 2, 1] (by decide) rfl
    have hK9 := hK.sub (tys' := []) [] rfl
    refine W.widen (k := 0) (n := 0) (Nat.le_of_ble_eq_true rfl) (Nat.le_of_ble_eq_true rfl) ?_
    exact W.zret (v := 0) hx hb hr (by rfl) (fun t ht hW => ⟨⟨0, (), rfl, (Or.inr (⟨rfl, by first | omega | decide⟩)), ⟨ta, ts, te, to, tg, n_h0_faultSort_20, n_h0_faultPlace_21, hB_ta, hB_ts, hB_te, hTok, (show ta.toInt ≤ tt.toInt by omega), by rw [ht]; exact hP9, va_K.moved hW.alike hK9, hD9⟩⟩, hS.F ht⟩) hS.2.2 dX1_passSign_19
def u_s_X1_readKind : List Cond := .code yX1_readKind cX1_readKind 1 (some .boolean) :: ([.fieldLink RX1 24 "ShellHeap$FindsReader" "tape" "LShellHeap$Tape;", .methodLink RX1 74 yX10_numberBehind, .instanceMethod yX10_numberBehind, .selects RX10 yX10_numberBehind yX10_numberBehind, .initialized RX10, .fieldLink RX1 15 "ShellHeap$FindsReader" "kind" "I", .fieldLink RX1 28 "ShellHeap$FindsReader" "pantry" "LShellHeap$Pantry;", .methodLink RX1 78 yX5_hasKind, .instanceMethod yX5_hasKind, .selects RX5 yX5_hasKind yX5_hasKind, .initialized RX5, .methodLink RX1 62 yX10_next, .instanceMethod yX10_next, .selects RX10 yX10_next yX10_next, .methodLink RX1 55 yX10_fail, .instanceMethod yX10_fail, .selects RX10 yX10_fail yX10_fail] ++ (wsX10 ++ (u_s_X10_numberBehind ++ (u_s_X5_hasKind ++ (u_s_X10_next2 ++ (u_s_X10_fail ++ []))))))
theorem gd_s_X1_readKind : z_gd u_s_X1_readKind := z_gdc (by decide +kernel) (z_gda gdX1 (z_gda gd_s_X10_numberBehind (z_gda gd_s_X5_hasKind (z_gda gd_s_X10_next2 (z_gda gd_s_X10_fail (z_gd0))))))
set_option maxRecDepth 20000 in
theorem gw_s_X1_readKind_s_X10_numberBehind_74 : GoodIn u_s_X1_readKind (wsV RX1 74 RX10 yX10_numberBehind u_s_X10_numberBehind) := z_gV (z_gr _ [2, 3, 4, 5] rfl (by decide +kernel)) (fun w h => ⟨z_mc (z_mr (z_mr (z_ml h))), gd_s_X10_numberBehind w h⟩)
set_option maxRecDepth 20000 in
theorem gw_s_X1_readKind_s_X5_hasKind_78 : GoodIn u_s_X1_readKind (wsV RX1 78 RX5 yX5_hasKind u_s_X5_hasKind) := z_gV (z_gr _ [8, 9, 10, 11] rfl (by decide +kernel)) (fun w h => ⟨z_mc (z_mr (z_mr (z_mr (z_ml h)))), gd_s_X5_hasKind w h⟩)
set_option maxRecDepth 20000 in
theorem gw_s_X1_readKind_s_X10_next2_62 : GoodIn u_s_X1_readKind (wsV RX1 62 RX10 yX10_next u_s_X10_next2) := z_gV (z_gr _ [12, 13, 14, 5] rfl (by decide +kernel)) (fun w h => ⟨z_mc (z_mr (z_mr (z_mr (z_mr (z_ml h))))), gd_s_X10_next2 w h⟩)
set_option maxRecDepth 20000 in
theorem gw_s_X1_readKind_s_X10_fail_55 : GoodIn u_s_X1_readKind (wsV RX1 55 RX10 yX10_fail u_s_X10_fail) := z_gV (z_gr _ [15, 16, 17, 5] rfl (by decide +kernel)) (fun w h => ⟨z_mc (z_mr (z_mr (z_mr (z_mr (z_mr (z_ml h)))))), gd_s_X10_fail w h⟩)
set_option maxHeartbeats 4000000 in
set_option maxRecDepth 100000 in
theorem s_X1_readKind (l : Launch) (dC : Nat → ClassId) (dI : Nat → Nat → Nat) (sz : Nat) (sd : Nat → Nat) (sv : Nat → Nat) (sf : Value) (h0 : Nat) (a_tp : Nat) (a_pa : Nat) (fn : Int32) (fk : Int32) (fs : Int32) (fp : Int32) (a_tb : Nat) (tt : Int32) (ta : Int32) (tj : Int32) (tf : Int32) (ts : Int32) (te : Int32) (to : Int32) (tg : Int32) (tx : Int32) (ty : Int32) (ca_tb : ClassId) (fa_tb : Nat → Int32) (a_pa_0 : Value) (a_pa_1 : Value) (a_fo : Nat) (a_pa_3 : Value) (a_pa_4 : Value) (a_pa_5 : Value) (a_pa_6 : Value) (a_pa_7 : Value) (a_pa_8 : Value) (pk : Int32) (hB_tt : ((0 : Int) ≤ (tt).toInt ∧ (tt).toInt ≤ (700 : Int))) (hB_ta : ((0 : Int) ≤ (ta).toInt ∧ (ta).toInt ≤ (700 : Int))) (hB_tf : ((0 : Int) ≤ (tf).toInt ∧ (tf).toInt ≤ (700 : Int))) (hB_ts : ((0 : Int) ≤ (ts).toInt ∧ (ts).toInt ≤ (700 : Int))) (hB_te : ((0 : Int) ≤ (te).toInt ∧ (te).toInt ≤ (700 : Int))) (hB_pk : ((0 : Int) ≤ (pk).toInt ∧ (pk).toInt ≤ (6 : Int))) (hI_a_tb : ∀ j : Nat, ((0 : Int) ≤ (fa_tb j).toInt ∧ (fa_tb j).toInt ≤ (255 : Int))) (hTok : (to.toInt = (1 : Int) → z_tok fa_tb ts.toInt te.toInt ∧ te.toInt ≤ tt.toInt)) (hle : ta.toInt ≤ tt.toInt) : Met l yX1_readKind u_s_X1_readKind ({ frames := 3, cells := 0, slots := 0, locals := 65 }) (va_Pc [.ref h0] (z_CS (dC, dI) vwCl [(h0, .inr (1, [.ref a_tp, .ref a_pa, .int fn, .int fk, .int fs, .int fp])), (a_tp, .inr (10, [.ref a_tb, .int tt, .int ta, .int tj, .int tf, .int ts, .int te, .int to, .int tg, .int tx, .int ty])), (a_tb, .inl (ca_tb, 700, .inl fa_tb)), (a_pa, .inr (5, [a_pa_0, a_pa_1, .ref a_fo, a_pa_3, a_pa_4, a_pa_5, a_pa_6, a_pa_7, a_pa_8, .int pk]))] [(ca_tb, .int)] sz sd sv sf [(h0, .inr (1, [.ref a_tp, .ref a_pa, .int fn, .int fk, .int fs, .int fp])), (a_tp, .inr (10, [.ref a_tb, .int tt, .int ta, .int tj, .int tf, .int ts, .int te, .int to, .int tg, .int tx, .int ty])), (a_tb, .inl (ca_tb, 700, .inl fa_tb)), (a_pa, .inr (5, [a_pa_0, a_pa_1, .ref a_fo, a_pa_3, a_pa_4, a_pa_5, a_pa_6, a_pa_7, a_pa_8, .int pk]))])) (va_Qi (fun (r : Int32) (u : Int32) => r = u ∧ ((r = 1 ∧ True) ∨ (r = 0 ∧ True))) (fun (u : Int32) (t : State) => ∃ (n_h0_kind : Int32), ∃ (n_a_tp_at : Int32), ∃ (n_a_tp_start : Int32), ∃ (n_a_tp_end : Int32), ∃ (n_a_tp_sort : Int32), ∃ (n_a_tp_sign : Int32), ∃ (n_a_tp_faultSort : Int32), ∃ (n_a_tp_faultPlace : Int32), ((0 : Int) ≤ (n_a_tp_at).toInt ∧ (n_a_tp_at).toInt ≤ (700 : Int)) ∧ ((0 : Int) ≤ (n_a_tp_start).toInt ∧ (n_a_tp_start).toInt ≤ (700 : Int)) ∧ ((0 : Int) ≤ (n_a_tp_end).toInt ∧ (n_a_tp_end).toInt ≤ (700 : Int)) ∧ ((n_a_tp_sort.toInt = (1 : Int) → z_tok fa_tb n_a_tp_start.toInt n_a_tp_end.toInt ∧ n_a_tp_end.toInt ≤ tt.toInt)) ∧ (n_a_tp_at.toInt ≤ tt.toInt) ∧ (u = 1 → ((0 : Int) ≤ n_h0_kind.toInt ∧ n_h0_kind.toInt ≤ (5 : Int))) ∧ va_P (dC, dI) vwCl [(h0, .inr (1, [.ref a_tp, .ref a_pa, .int fn, .int n_h0_kind, .int fs, .int fp])), (a_tp, .inr (10, [.ref a_tb, .int tt, .int n_a_tp_at, .int tj, .int tf, .int n_a_tp_start, .int n_a_tp_end, .int n_a_tp_sort, .int n_a_tp_sign, .int n_a_tp_faultSort, .int n_a_tp_faultPlace])), (a_tb, .inl (ca_tb, 700, .inl fa_tb)), (a_pa, .inr (5, [a_pa_0, a_pa_1, .ref a_fo, a_pa_3, a_pa_4, a_pa_5, a_pa_6, a_pa_7, a_pa_8, .int pk]))] t.heap ∧ va_K (dC, dI) vwCl [] t ∧ va_D (va_A [(h0, .inr (1, [.ref a_tp, .ref a_pa, .int fn, .int fk, .int fs, .int fp])), (a_tp, .inr (10, [.ref a_tb, .int tt, .int ta, .int tj, .int tf, .int ts, .int te, .int to, .int tg, .int tx, .int ty])), (a_tb, .inl (ca_tb, 700, .inl fa_tb)), (a_pa, .inr (5, [a_pa_0, a_pa_1, .ref a_fo, a_pa_3, a_pa_4, a_pa_5, a_pa_6, a_pa_7, a_pa_8, .int pk]))] sz) [(h0, .inr (1, [.ref a_tp, .ref a_pa, .int fn, .int n_h0_kind, .int fs, .int fp])), (a_tp, .inr (10, [.ref a_tb, .int tt, .int n_a_tp_at, .int tj, .int tf, .int n_a_tp_start, .int n_a_tp_end, .int n_a_tp_sort, .int n_a_tp_sign, .int n_a_tp_faultSort, .int n_a_tp_faultPlace])), (a_tb, .inl (ca_tb, 700, .inl fa_tb)), (a_pa, .inr (5, [a_pa_0, a_pa_1, .ref a_fo, a_pa_3, a_pa_4, a_pa_5, a_pa_6, a_pa_7, a_pa_8, .int pk]))]) (va_A [(h0, .inr (1, [.ref a_tp, .ref a_pa, .int fn, .int fk, .int fs, .int fp])), (a_tp, .inr (10, [.ref a_tb, .int tt, .int ta, .int tj, .int tf, .int ts, .int te, .int to, .int tg, .int tx, .int ty])), (a_tb, .inl (ca_tb, 700, .inl fa_tb)), (a_pa, .inr (5, [a_pa_0, a_pa_1, .ref a_fo, a_pa_3, a_pa_4, a_pa_5, a_pa_6, a_pa_7, a_pa_8, .int pk]))] sz)) 0 0 (va_A [(h0, .inr (1, [.ref a_tp, .ref a_pa, .int fn, .int fk, .int fs, .int fp])), (a_tp, .inr (10, [.ref a_tb, .int tt, .int ta, .int tj, .int tf, .int ts, .int te, .int to, .int tg, .int tx, .int ty])), (a_tb, .inl (ca_tb, 700, .inl fa_tb)), (a_pa, .inr (5, [a_pa_0, a_pa_1, .ref a_fo, a_pa_3, a_pa_4, a_pa_5, a_pa_6, a_pa_7, a_pa_8, .int pk]))] sz) := by
  refine Met.ofW (cc := cX1_readKind) (maxL := 1) (ret := (some .boolean)) (by decide) rfl ?_
  intro p e s m args below meth c s₁ B hml hv
  obtain ⟨rfl, ⟨hsz, hP, hK, hD0⟩, hST⟩ := hv
  have hx := B.exec
  have hb := B.bytes
  have hr := B.returns
  have hts := atoms_spec (ws := u_s_X1_readKind) B.pre
  have hown : s.vm.findClass RX1 = some m.cls := findClass_of_methodNamed B.named
  have hlocks := B.notSynchronized
  subst hsz
  have hD := hD0.self (sz := s.heap.size)
  generalize hAe : va_A [(h0, .inr (1, [.ref a_tp, .ref a_pa, .int fn, .int fk, .int fs, .int fp])), (a_tp, .inr (10, [.ref a_tb, .int tt, .int ta, .int tj, .int tf, .int ts, .int te, .int to, .int tg, .int tx, .int ty])), (a_tb, .inl (ca_tb, 700, .inl fa_tb)), (a_pa, .inr (5, [a_pa_0, a_pa_1, .ref a_fo, a_pa_3, a_pa_4, a_pa_5, a_pa_6, a_pa_7, a_pa_8, .int pk]))] s.heap.size = A at hD hST ⊢
  have hA : ∀ q : Nat, s.heap.size ≤ q → A q := fun q h => by rw [← hAe]; exact Or.inr h
  have hS : va_S A s.heap s.heap [] := va_S.rf
  have hP : va_P (dC, dI) vwCl [(h0, .inr (1, [.ref a_tp, .ref a_pa, .int fn, .int fk, .int fs, .int fp])), (a_tp, .inr (10, [.ref a_tb, .int tt, .int ta, .int tj, .int tf, .int ts, .int te, .int to, .int tg, .int tx, .int ty])), (a_tb, .inl (ca_tb, 700, .inl fa_tb)), (a_pa, .inr (5, [a_pa_0, a_pa_1, .ref a_fo, a_pa_3, a_pa_4, a_pa_5, a_pa_6, a_pa_7, a_pa_8, .int pk]))] s.heap := hP
  have w__fieldLink_RX1_24_ShellHeap_FindsReader_tape_LShellHeap_Tape_ := hts (.fieldLink RX1 24 "ShellHeap$FindsReader" "tape" "LShellHeap$Tape;") (z_mc (z_ml z_m0))
  have hiX1 := show ∀ w ∈ u_ws RX1 TX1 6, w ∈ u_s_X1_readKind from fun w h => z_mc (z_mr (z_ml h))
  have w__fieldLink_RX1_15_ShellHeap_FindsReader_kind_I_ := hts (.fieldLink RX1 15 "ShellHeap$FindsReader" "kind" "I") (z_mc (z_ml z_m5))
  have w__fieldLink_RX1_28_ShellHeap_FindsReader_pantry_LShellHeap_Pantry_ := hts (.fieldLink RX1 28 "ShellHeap$FindsReader" "pantry" "LShellHeap$Pantry;") (z_mc (z_ml z_m6))
  have hl := lv_entry ([.ref h0]) (n := 1) (Nat.le_of_ble_eq_true rfl)
  rw [lg_entry_eq]
  generalize (lg_sl ([.ref h0]) ++ List.replicate (1 - (lg_sl ([.ref h0])).length) Slot.unset).toArray = ls at hl ⊢
  have hl : lv_has ls 1 [(0, .ref h0)] := hl
  refine lv_aload_n hx hb dX1_readKind_0 rfl (lv_at hl 0 rfl) ?_
  refine lv_aload_n hx hb dX1_readKind_1 rfl (lv_at hl 0 rfl) ?_
  refine va_get (D := (dC, dI)) (ci := 1) (v := .ref a_tp) (C := RX1) (T := TX1) (N := 6) hx hb hts hiX1 hown hK hP 0 rfl rfl 0 (by decide) w__fieldLink_RX1_24_ShellHeap_FindsReader_tape_LShellHeap_Tape_ (fun _ h9 => h9) rfl dX1_readKind_2 ?_
  refine lv_bipush (v := 107) hx hb dX1_readKind_5 (by decide) ?_
  obtain ⟨hPc, hDc⟩ := z_sub2 (ws' := [(a_tp, .inr (10, [.ref a_tb, .int tt, .int ta, .int tj, .int tf, .int ts, .int te, .int to, .int tg, .int tx, .int ty])), (a_tb, .inl (ca_tb, 700, .inl fa_tb))]) hP hD [1, 2] (by decide) rfl
  have hKc := hK
  have hFc := va_free (ws := []) (wc := []) (z_D0 _) hS hA [] rfl
  refine va_calli (va_runV (As := [.int 107]) (rest := [.ref h0]) ⟨hx, hb, hml, hown, hts⟩ (s_X10_numberBehind l dC dI s.heap.size a_tp 107 a_tb tt (.int ta) (.int tj) (.int tf) ts te to (.int tg) (.int tx) (.int ty) ca_tb fa_tb hB_tt hB_ts hB_te hI_a_tb hTok) (cwV 1 hts gw_s_X1_readKind_s_X10_numberBehind_74 rfl rfl rfl (by decide +kernel) ⟨Nat.le_of_ble_eq_true rfl, Nat.le_of_ble_eq_true rfl⟩) ⟨z_blind, va_recv hKc hPc (ci := 10) (q0 := 0) rfl rfl, z_pre hPc hKc hDc⟩ rfl rfl hl.1 rfl (lv_room (Nat.le_of_ble_eq_true rfl)) dX1_readKind_7 ⟨Nat.le_of_ble_eq_true rfl, Nat.le_of_ble_eq_true rfl⟩) hS (fun q _ h => hFc q h) hFc (fun r_2 u t H_1 locs ht hvm hw_3 hB hz1 hk1 hS => ?_)
  replace hP := z_pure hP hk1
  clear hPc hDc hKc
  refine va_put (D := (dC, dI)) (ci := 1) (v := .int r_2) (ty := .int) (C := RX1) (T := TX1) (N := 6) hx hb hts hiX1 tyX1 tyX1_ok nmX1 hown hK hP hD hS 0 rfl rfl 3 (by decide) w__fieldLink_RX1_15_ShellHeap_FindsReader_kind_I_ (fun _ h9 => h9) rfl (by decide +kernel) rfl rfl (Nat.le_of_ble_eq_true rfl) dX1_readKind_10 (fun H_4 locs hP hD hS => ?_)
  obtain ⟨hP, hD⟩ := z_s_0_3 hP hD
  refine lv_aload_n hx hb dX1_readKind_13 rfl (lv_at hl 0 rfl) ?_
  refine va_get (D := (dC, dI)) (ci := 1) (v := .int r_2) (C := RX1) (T := TX1) (N := 6) hx hb hts hiX1 hown hK hP 0 rfl rfl 3 (by decide) w__fieldLink_RX1_15_ShellHeap_FindsReader_kind_I_ (fun _ h9 => h9) rfl dX1_readKind_14 ?_
  refine lv_iconst (v := (-1)) hx hb dX1_readKind_17 (by decide) ?_
  refine lv_icmp_ne (tgt := 30) hx hb dX1_readKind_18 (by decide) (fun c_5 => ?_) (fun c_5 => ?_)
  · have k_6 : (r_2).toInt ≠ (-1 : Int) := z_ne c_5
    refine lv_aload_n hx hb dX1_readKind_30 rfl (lv_at hl 0 rfl) ?_
    refine va_get (D := (dC, dI)) (ci := 1) (v := .ref a_pa) (C := RX1) (T := TX1) (N := 6) hx hb hts hiX1 hown hK hP 0 rfl rfl 1 (by decide) w__fieldLink_RX1_28_ShellHeap_FindsReader_pantry_LShellHeap_Pantry_ (fun _ h9 => h9) rfl dX1_readKind_31 ?_
    refine lv_aload_n hx hb dX1_readKind_34 rfl (lv_at hl 0 rfl) ?_
    refine va_get (D := (dC, dI)) (ci := 1) (v := .int r_2) (C := RX1) (T := TX1) (N := 6) hx hb hts hiX1 hown hK hP 0 rfl rfl 3 (by decide) w__fieldLink_RX1_15_ShellHeap_FindsReader_kind_I_ (fun _ h9 => h9) rfl dX1_readKind_35 ?_
    obtain ⟨hPc, hDc⟩ := z_sub2 (ws' := [(a_pa, .inr (5, [a_pa_0, a_pa_1, .ref a_fo, a_pa_3, a_pa_4, a_pa_5, a_pa_6, a_pa_7, a_pa_8, .int pk]))]) hP hD [3] (by decide) rfl
    have hKc := hK.sub (tys' := []) [] rfl
    have hFc := va_free (ws := []) (wc := []) (z_D0 _) hS hA [] rfl
    refine va_calli (va_runV (As := [.int r_2]) (rest := []) ⟨hx, hb, hml, hown, hts⟩ (s_X5_hasKind l dC dI H_4.size a_pa r_2 a_pa_0 a_pa_1 (.ref a_fo) a_pa_3 a_pa_4 a_pa_5 a_pa_6 a_pa_7 a_pa_8 pk hB_pk) (cwV 1 hts gw_s_X1_readKind_s_X5_hasKind_78 rfl rfl rfl (by decide +kernel) ⟨Nat.le_of_ble_eq_true rfl, Nat.le_of_ble_eq_true rfl⟩) ⟨z_blind, va_recv hKc hPc (ci := 5) (q0 := 0) rfl rfl, z_pre hPc hKc hDc⟩ rfl rfl hl.1 rfl (lv_room (Nat.le_of_ble_eq_true rfl)) dX1_readKind_38 ⟨Nat.le_of_ble_eq_true rfl, Nat.le_of_ble_eq_true rfl⟩) hS (fun q _ h => hFc q h) hFc (fun r_8 u t H_7 locs ht hvm hw_9 hB hz1 hk1 hS => ?_)
    replace hP := z_pure hP hk1
    clear hPc hDc hKc
    rcases hw_9 with ⟨rfl, hw_9⟩ | ⟨rfl, hw_9⟩
    · have hw_9 : (0 ≤ r_2.toInt ∧ r_2.toInt < pk.toInt) := hw_9
      refine lv_if_ne (tgt := 53) hx hb dX1_readKind_41 (by decide) (fun _ => ?_) (fun c_10 => absurd c_10 (by decide))
      refine lv_aload_n hx hb dX1_readKind_53 rfl (lv_at hl 0 rfl) ?_
      refine va_get (D := (dC, dI)) (ci := 1) (v := .ref a_tp) (C := RX1) (T := TX1) (N := 6) hx hb hts hiX1 hown hK hP 0 rfl rfl 0 (by decide) w__fieldLink_RX1_24_ShellHeap_FindsReader_tape_LShellHeap_Tape_ (fun _ h9 => h9) rfl dX1_readKind_54 ?_
      obtain ⟨hPc, hDc, hFc⟩ := z_sub3 (ws' := [(a_tp, .inr (10, [.ref a_tb, .int tt, .int ta, .int tj, .int tf, .int ts, .int te, .int to, .int tg, .int tx, .int ty])), (a_tb, .inl (ca_tb, 700, .inl fa_tb))]) hP hD hS hA [1, 2] (by decide) rfl
      have hKc := hK
      refine va_callv (va_runV (As := []) (rest := []) ⟨hx, hb, hml, hown, hts⟩ (s_X10_next2 l dC dI H_7.size a_tp a_tb tt ta tj tf ts te to tg tx ty ca_tb fa_tb hB_tt hB_ta hB_tf hB_ts hB_te hI_a_tb (by first | omega | decide)) (cwV 0 hts gw_s_X1_readKind_s_X10_next2_62 rfl rfl rfl (by decide +kernel) ⟨Nat.le_of_ble_eq_true rfl, Nat.le_of_ble_eq_true rfl⟩) ⟨z_blind, va_recv hKc hPc (ci := 10) (q0 := 0) rfl rfl, z_pre hPc hKc hDc⟩ rfl rfl hl.1 rfl (lv_room (Nat.le_of_ble_eq_true rfl)) dX1_readKind_57 ⟨Nat.le_of_ble_eq_true rfl, Nat.le_of_ble_eq_true rfl⟩) hS (fun q _ h => hFc q h) hFc (fun u t H_11 locs ht hvm hw_13 hB hz1 hk1 hS => ?_)
      obtain ⟨n_h0_at_14, n_h0_start_15, n_h0_end_16, n_h0_sort_17, n_h0_sign_18, hp_19, hp_20, hp_21, hp_22, hp_23, hP1, hK1, hD1⟩ := hB
      rw [ht] at hP1
      have hK1 := va_K.moved hvm.symm hK1
      obtain ⟨hP, hD⟩ := z_ap_2 (va_join (wr := [(h0, .inr (1, [.ref a_tp, .ref a_pa, .int fn, .int r_2, .int fs, .int fp])), (a_pa, .inr (5, [a_pa_0, a_pa_1, .ref a_fo, a_pa_3, a_pa_4, a_pa_5, a_pa_6, a_pa_7, a_pa_8, .int pk]))]) hP hD [1, 2] [0, 3] rfl rfl (by decide) (by decide) hk1 hFc hP1 hD1)
      have hp_22 : (n_h0_sort_17.toInt = (1 : Int) → z_tok fa_tb n_h0_start_15.toInt n_h0_end_16.toInt ∧ n_h0_end_16.toInt ≤ tt.toInt) := hp_22
      have hp_23 : n_h0_at_14.toInt ≤ tt.toInt := hp_23
      clear hPc hDc hKc
      refine lv_iconst (v := 1) hx hb dX1_readKind_60 (by decide) ?_
      obtain ⟨hP9, hD9⟩ := z_sub2 (ws' := [(h0, .inr (1, [.ref a_tp, .ref a_pa, .int fn, .int r_2, .int fs, .int fp])), (a_tp, .inr (10, [.ref a_tb, .int tt, .int n_h0_at_14, .int tj, .int tf, .int n_h0_start_15, .int n_h0_end_16, .int n_h0_sort_17, .int n_h0_sign_18, .int tx, .int ty])), (a_tb, .inl (ca_tb, 700, .inl fa_tb)), (a_pa, .inr (5, [a_pa_0, a_pa_1, .ref a_fo, a_pa_3, a_pa_4, a_pa_5, a_pa_6, a_pa_7, a_pa_8, .int pk]))]) hP hD [0, 2, 3, 1] (by decide) rfl
      have hK9 := hK.sub (tys' := []) [] rfl
      refine W.widen (k := 0) (n := 0) (Nat.le_of_ble_eq_true rfl) (Nat.le_of_ble_eq_true rfl) ?_
      exact W.zret (v := 1) hx hb hr (by rfl) (fun t ht hW => ⟨⟨1, 1, rfl, ⟨rfl, (Or.inl (⟨rfl, by first | omega | decide⟩))⟩, ⟨r_2, n_h0_at_14, n_h0_start_15, n_h0_end_16, n_h0_sort_17, n_h0_sign_18, tx, ty, hp_19, hp_20, hp_21, hp_22, (show n_h0_at_14.toInt ≤ tt.toInt by omega), (fun _ => (show ((0 : Int) ≤ r_2.toInt ∧ r_2.toInt ≤ (5 : Int)) by omega)), by rw [ht]; exact hP9, va_K.moved hW.alike hK9, hD9⟩⟩, hS.F ht⟩) hS.2.2 dX1_readKind_61
    · have hw_9 : True := hw_9
      refine lv_if_ne (tgt := 53) hx hb dX1_readKind_41 (by decide) (fun c_24 => absurd c_24 (by decide)) (fun _ => ?_)
      refine lv_aload_n hx hb dX1_readKind_44 rfl (lv_at hl 0 rfl) ?_
      refine va_get (D := (dC, dI)) (ci := 1) (v := .ref a_tp) (C := RX1) (T := TX1) (N := 6) hx hb hts hiX1 hown hK hP 0 rfl rfl 0 (by decide) w__fieldLink_RX1_24_ShellHeap_FindsReader_tape_LShellHeap_Tape_ (fun _ h9 => h9) rfl dX1_readKind_45 ?_
      refine lv_iconst (v := 2) hx hb dX1_readKind_48 (by decide) ?_
      obtain ⟨hPc, hDc, hFc⟩ := z_sub3 (ws' := [(a_tp, .inr (10, [.ref a_tb, .int tt, .int ta, .int tj, .int tf, .int ts, .int te, .int to, .int tg, .int tx, .int ty]))]) hP hD hS hA [1] (by decide) rfl
      have hKc := hK.sub (tys' := []) [] rfl
      refine va_calli (va_runV (As := [.int 2]) (rest := []) ⟨hx, hb, hml, hown, hts⟩ (s_X10_fail l dC dI H_7.size a_tp 2 (.ref a_tb) (.int tt) (.int ta) (.int tj) (.int tf) ts (.int te) (.int to) (.int tg) tx ty hB_ts) (cwV 1 hts gw_s_X1_readKind_s_X10_fail_55 rfl rfl rfl (by decide +kernel) ⟨Nat.le_of_ble_eq_true rfl, Nat.le_of_ble_eq_true rfl⟩) ⟨z_blind, va_recv hKc hPc (ci := 10) (q0 := 0) rfl rfl, z_pre hPc hKc hDc⟩ rfl rfl hl.1 rfl (lv_room (Nat.le_of_ble_eq_true rfl)) dX1_readKind_49 ⟨Nat.le_of_ble_eq_true rfl, Nat.le_of_ble_eq_true rfl⟩) hS (fun q _ h => hFc q h) hFc (fun r_26 u t H_25 locs ht hvm hw_27 hB hz1 hk1 hS => ?_)
      obtain ⟨n_h0_faultSort_28, n_h0_faultPlace_29, hP1, hK1, hD1⟩ := hB
      rw [ht] at hP1
      have hK1 := va_K.moved hvm.symm hK1
      obtain ⟨hP, hD⟩ := z_ap_3 (va_join (wr := [(h0, .inr (1, [.ref a_tp, .ref a_pa, .int fn, .int r_2, .int fs, .int fp])), (a_tb, .inl (ca_tb, 700, .inl fa_tb)), (a_pa, .inr (5, [a_pa_0, a_pa_1, .ref a_fo, a_pa_3, a_pa_4, a_pa_5, a_pa_6, a_pa_7, a_pa_8, .int pk]))]) hP hD [1] [0, 2, 3] rfl rfl (by decide) (by decide) hk1 hFc hP1 hD1)
      clear hPc hDc hKc
      obtain rfl : r_26 = 0 := hw_27
      obtain ⟨hP9, hD9⟩ := z_sub2 (ws' := [(h0, .inr (1, [.ref a_tp, .ref a_pa, .int fn, .int r_2, .int fs, .int fp])), (a_tp, .inr (10, [.ref a_tb, .int tt, .int ta, .int tj, .int tf, .int ts, .int te, .int to, .int tg, .int n_h0_faultSort_28, .int n_h0_faultPlace_29])), (a_tb, .inl (ca_tb, 700, .inl fa_tb)), (a_pa, .inr (5, [a_pa_0, a_pa_1, .ref a_fo, a_pa_3, a_pa_4, a_pa_5, a_pa_6, a_pa_7, a_pa_8, .int pk]))]) hP hD [0, 3, 1, 2] (by decide) rfl
      have hK9 := hK.sub (tys' := []) [] rfl
      refine W.widen (k := 0) (n := 0) (Nat.le_of_ble_eq_true rfl) (Nat.le_of_ble_eq_true rfl) ?_
      exact W.zret (v := 0) hx hb hr (by rfl) (fun t ht hW => ⟨⟨0, 0, rfl, ⟨rfl, (Or.inr (⟨rfl, by first | omega | decide⟩))⟩, ⟨r_2, ta, ts, te, to, tg, n_h0_faultSort_28, n_h0_faultPlace_29, hB_ta, hB_ts, hB_te, hTok, (show ta.toInt ≤ tt.toInt by omega), (fun h9 => absurd h9 (by decide)), by rw [ht]; exact hP9, va_K.moved hW.alike hK9, hD9⟩⟩, hS.F ht⟩) hS.2.2 dX1_readKind_52
  · have k_30 : (r_2).toInt = (-1 : Int) := z_eq c_5
    obtain rfl : r_2 = (-1) := z_eq' (show (r_2).toInt = (-1 : Int) by omega)
    refine lv_aload_n hx hb dX1_readKind_21 rfl (lv_at hl 0 rfl) ?_
    refine va_get (D := (dC, dI)) (ci := 1) (v := .ref a_tp) (C := RX1) (T := TX1) (N := 6) hx hb hts hiX1 hown hK hP 0 rfl rfl 0 (by decide) w__fieldLink_RX1_24_ShellHeap_FindsReader_tape_LShellHeap_Tape_ (fun _ h9 => h9) rfl dX1_readKind_22 ?_
    refine lv_iconst (v := 1) hx hb dX1_readKind_25 (by decide) ?_
    obtain ⟨hPc, hDc, hFc⟩ := z_sub3 (ws' := [(a_tp, .inr (10, [.ref a_tb, .int tt, .int ta, .int tj, .int tf, .int ts, .int te, .int to, .int tg, .int tx, .int ty]))]) hP hD hS hA [1] (by decide) rfl
    have hKc := hK.sub (tys' := []) [] rfl
    refine va_calli (va_runV (As := [.int 1]) (rest := []) ⟨hx, hb, hml, hown, hts⟩ (s_X10_fail l dC dI H_4.size a_tp 1 (.ref a_tb) (.int tt) (.int ta) (.int tj) (.int tf) ts (.int te) (.int to) (.int tg) tx ty hB_ts) (cwV 1 hts gw_s_X1_readKind_s_X10_fail_55 rfl rfl rfl (by decide +kernel) ⟨Nat.le_of_ble_eq_true rfl, Nat.le_of_ble_eq_true rfl⟩) ⟨z_blind, va_recv hKc hPc (ci := 10) (q0 := 0) rfl rfl, z_pre hPc hKc hDc⟩ rfl rfl hl.1 rfl (lv_room (Nat.le_of_ble_eq_true rfl)) dX1_readKind_26 ⟨Nat.le_of_ble_eq_true rfl, Nat.le_of_ble_eq_true rfl⟩) hS (fun q _ h => hFc q h) hFc (fun r_33 u t H_32 locs ht hvm hw_34 hB hz1 hk1 hS => ?_)
    obtain ⟨n_h0_faultSort_35, n_h0_faultPlace_36, hP1, hK1, hD1⟩ := hB
    rw [ht] at hP1
    have hK1 := va_K.moved hvm.symm hK1
    obtain ⟨hP, hD⟩ := z_ap_3 (va_join (wr := [(h0, .inr (1, [.ref a_tp, .ref a_pa, .int fn, .int (-1), .int fs, .int fp])), (a_tb, .inl (ca_tb, 700, .inl fa_tb)), (a_pa, .inr (5, [a_pa_0, a_pa_1, .ref a_fo, a_pa_3, a_pa_4, a_pa_5, a_pa_6, a_pa_7, a_pa_8, .int pk]))]) hP hD [1] [0, 2, 3] rfl rfl (by decide) (by decide) hk1 hFc hP1 hD1)
    clear hPc hDc hKc
    obtain rfl : r_33 = 0 := hw_34
    obtain ⟨hP9, hD9⟩ := z_sub2 (ws' := [(h0, .inr (1, [.ref a_tp, .ref a_pa, .int fn, .int (-1), .int fs, .int fp])), (a_tp, .inr (10, [.ref a_tb, .int tt, .int ta, .int tj, .int tf, .int ts, .int te, .int to, .int tg, .int n_h0_faultSort_35, .int n_h0_faultPlace_36])), (a_tb, .inl (ca_tb, 700, .inl fa_tb)), (a_pa, .inr (5, [a_pa_0, a_pa_1, .ref a_fo, a_pa_3, a_pa_4, a_pa_5, a_pa_6, a_pa_7, a_pa_8, .int pk]))]) hP hD [0, 3, 1, 2] (by decide) rfl
    have hK9 := hK.sub (tys' := []) [] rfl
    refine W.widen (k := 0) (n := 0) (Nat.le_of_ble_eq_true rfl) (Nat.le_of_ble_eq_true rfl) ?_
    exact W.zret (v := 0) hx hb hr (by rfl) (fun t ht hW => ⟨⟨0, 0, rfl, ⟨rfl, (Or.inr (⟨rfl, by first | omega | decide⟩))⟩, ⟨(-1), ta, ts, te, to, tg, n_h0_faultSort_35, n_h0_faultPlace_36, hB_ta, hB_ts, hB_te, hTok, (show ta.toInt ≤ tt.toInt by omega), (fun h9 => absurd h9 (by decide)), by rw [ht]; exact hP9, va_K.moved hW.alike hK9, hD9⟩⟩, hS.F ht⟩) hS.2.2 dX1_readKind_29
def u_s_X1_readSieve : List Cond := .code yX1_readSieve cX1_readSieve 1 (some .boolean) :: ([.fieldLink RX1 24 "ShellHeap$FindsReader" "tape" "LShellHeap$Tape;", .methodLink RX1 74 yX10_numberBehind, .instanceMethod yX10_numberBehind, .selects RX10 yX10_numberBehind yX10_numberBehind, .initialized RX10, .fieldLink RX1 18 "ShellHeap$FindsReader" "sieve" "I", .methodLink RX1 62 yX10_next, .instanceMethod yX10_next, .selects RX10 yX10_next yX10_next, .methodLink RX1 55 yX10_fail, .instanceMethod yX10_fail, .selects RX10 yX10_fail yX10_fail] ++ (wsX10 ++ (u_s_X10_numberBehind ++ (u_s_X10_next2 ++ (u_s_X10_fail ++ [])))))
theorem gd_s_X1_readSieve : z_gd u_s_X1_readSieve := z_gdc (by decide +kernel) (z_gda gdX1 (z_gda gd_s_X10_numberBehind (z_gda gd_s_X10_next2 (z_gda gd_s_X10_fail (z_gd0)))))
set_option maxRecDepth 20000 in
theorem gw_s_X1_readSieve_s_X10_numberBehind_74 : GoodIn u_s_X1_readSieve (wsV RX1 74 RX10 yX10_numberBehind u_s_X10_numberBehind) := z_gV (z_gr _ [2, 3, 4, 5] rfl (by decide +kernel)) (fun w h => ⟨z_mc (z_mr (z_mr (z_ml h))), gd_s_X10_numberBehind w h⟩)
set_option maxRecDepth 20000 in
theorem gw_s_X1_readSieve_s_X10_next2_62 : GoodIn u_s_X1_readSieve (wsV RX1 62 RX10 yX10_next u_s_X10_next2) := z_gV (z_gr _ [7, 8, 9, 5] rfl (by decide +kernel)) (fun w h => ⟨z_mc (z_mr (z_mr (z_mr (z_ml h)))), gd_s_X10_next2 w h⟩)
set_option maxRecDepth 20000 in
theorem gw_s_X1_readSieve_s_X10_fail_55 : GoodIn u_s_X1_readSieve (wsV RX1 55 RX10 yX10_fail u_s_X10_fail) := z_gV (z_gr _ [10, 11, 12, 5] rfl (by decide +kernel)) (fun w h => ⟨z_mc (z_mr (z_mr (z_mr (z_mr (z_ml h))))), gd_s_X10_fail w h⟩)
set_option maxHeartbeats 4000000 in
set_option maxRecDepth 100000 in
theorem s_X1_readSieve (l : Launch) (dC : Nat → ClassId) (dI : Nat → Nat → Nat) (sz : Nat) (sd : Nat → Nat) (sv : Nat → Nat) (sf : Value) (h0 : Nat) (a_tp : Nat) (a_pa : Nat) (fn : Int32) (fk : Int32) (fs : Int32) (fp : Int32) (a_tb : Nat) (tt : Int32) (ta : Int32) (tj : Int32) (tf : Int32) (ts : Int32) (te : Int32) (to : Int32) (tg : Int32) (tx : Int32) (ty : Int32) (ca_tb : ClassId) (fa_tb : Nat → Int32) (hB_tt : ((0 : Int) ≤ (tt).toInt ∧ (tt).toInt ≤ (700 : Int))) (hB_ta : ((0 : Int) ≤ (ta).toInt ∧ (ta).toInt ≤ (700 : Int))) (hB_tf : ((0 : Int) ≤ (tf).toInt ∧ (tf).toInt ≤ (700 : Int))) (hB_ts : ((0 : Int) ≤ (ts).toInt ∧ (ts).toInt ≤ (700 : Int))) (hB_te : ((0 : Int) ≤ (te).toInt ∧ (te).toInt ≤ (700 : Int))) (hI_a_tb : ∀ j : Nat, ((0 : Int) ≤ (fa_tb j).toInt ∧ (fa_tb j).toInt ≤ (255 : Int))) (hTok : (to.toInt = (1 : Int) → z_tok fa_tb ts.toInt te.toInt ∧ te.toInt ≤ tt.toInt)) (hle : ta.toInt ≤ tt.toInt) : Met l yX1_readSieve u_s_X1_readSieve ({ frames := 3, cells := 0, slots := 0, locals := 65 }) (va_Pc [.ref h0] (z_CS (dC, dI) vwCl [(h0, .inr (1, [.ref a_tp, .ref a_pa, .int fn, .int fk, .int fs, .int fp])), (a_tp, .inr (10, [.ref a_tb, .int tt, .int ta, .int tj, .int tf, .int ts, .int te, .int to, .int tg, .int tx, .int ty])), (a_tb, .inl (ca_tb, 700, .inl fa_tb))] [(ca_tb, .int)] sz sd sv sf [(h0, .inr (1, [.ref a_tp, .ref a_pa, .int fn, .int fk, .int fs, .int fp])), (a_tp, .inr (10, [.ref a_tb, .int tt, .int ta, .int tj, .int tf, .int ts, .int te, .int to, .int tg, .int tx, .int ty])), (a_tb, .inl (ca_tb, 700, .inl fa_tb))])) (va_Qi (fun (r : Int32) (u : Int32) => r = u ∧ ((r = 1 ∧ True) ∨ (r = 0 ∧ True))) (fun (u : Int32) (t : State) => ∃ (n_h0_sieve : Int32), ∃ (n_a_tp_at : Int32), ∃ (n_a_tp_start : Int32), ∃ (n_a_tp_end : Int32), ∃ (n_a_tp_sort : Int32), ∃ (n_a_tp_sign : Int32), ∃ (n_a_tp_faultSort : Int32), ∃ (n_a_tp_faultPlace : Int32), ((0 : Int) ≤ (n_a_tp_at).toInt ∧ (n_a_tp_at).toInt ≤ (700 : Int)) ∧ ((0 : Int) ≤ (n_a_tp_start).toInt ∧ (n_a_tp_start).toInt ≤ (700 : Int)) ∧ ((0 : Int) ≤ (n_a_tp_end).toInt ∧ (n_a_tp_end).toInt ≤ (700 : Int)) ∧ ((n_a_tp_sort.toInt = (1 : Int) → z_tok fa_tb n_a_tp_start.toInt n_a_tp_end.toInt ∧ n_a_tp_end.toInt ≤ tt.toInt)) ∧ (n_a_tp_at.toInt ≤ tt.toInt) ∧ (u = 1 → ((0 : Int) ≤ n_h0_sieve.toInt ∧ n_h0_sieve.toInt ≤ (3 : Int))) ∧ va_P (dC, dI) vwCl [(h0, .inr (1, [.ref a_tp, .ref a_pa, .int fn, .int fk, .int n_h0_sieve, .int fp])), (a_tp, .inr (10, [.ref a_tb, .int tt, .int n_a_tp_at, .int tj, .int tf, .int n_a_tp_start, .int n_a_tp_end, .int n_a_tp_sort, .int n_a_tp_sign, .int n_a_tp_faultSort, .int n_a_tp_faultPlace])), (a_tb, .inl (ca_tb, 700, .inl fa_tb))] t.heap ∧ va_K (dC, dI) vwCl [] t ∧ va_D (va_A [(h0, .inr (1, [.ref a_tp, .ref a_pa, .int fn, .int fk, .int fs, .int fp])), (a_tp, .inr (10, [.ref a_tb, .int tt, .int ta, .int tj, .int tf, .int ts, .int te, .int to, .int tg, .int tx, .int ty])), (a_tb, .inl (ca_tb, 700, .inl fa_tb))] sz) [(h0, .inr (1, [.ref a_tp, .ref a_pa, .int fn, .int fk, .int n_h0_sieve, .int fp])), (a_tp, .inr (10, [.ref a_tb, .int tt, .int n_a_tp_at, .int tj, .int tf, .int n_a_tp_start, .int n_a_tp_end, .int n_a_tp_sort, .int n_a_tp_sign, .int n_a_tp_faultSort, .int n_a_tp_faultPlace])), (a_tb, .inl (ca_tb, 700, .inl fa_tb))]) (va_A [(h0, .inr (1, [.ref a_tp, .ref a_pa, .int fn, .int fk, .int fs, .int fp])), (a_tp, .inr (10, [.ref a_tb, .int tt, .int ta, .int tj, .int tf, .int ts, .int te, .int to, .int tg, .int tx, .int ty])), (a_tb, .inl (ca_tb, 700, .inl fa_tb))] sz)) 0 0 (va_A [(h0, .inr (1, [.ref a_tp, .ref a_pa, .int fn, .int fk, .int fs, .int fp])), (a_tp, .inr (10, [.ref a_tb, .int tt, .int ta, .int tj, .int tf, .int ts, .int te, .int to, .int tg, .int tx, .int ty])), (a_tb, .inl (ca_tb, 700, .inl fa_tb))] sz) := by
  refine Met.ofW (cc := cX1_readSieve) (maxL := 1) (ret := (some .boolean)) (by decide) rfl ?_
  intro p e s m args below meth c s₁ B hml hv
  obtain ⟨rfl, ⟨hsz, hP, hK, hD0⟩, hST⟩ := hv
  have hx := B.exec
  have hb := B.bytes
  have hr := B.returns
  have hts := atoms_spec (ws := u_s_X1_readSieve) B.pre
  have hown : s.vm.findClass RX1 = some m.cls := findClass_of_methodNamed B.named
  have hlocks := B.notSynchronized
  subst hsz
  have hD := hD0.self (sz := s.heap.size)
  generalize hAe : va_A [(h0, .inr (1, [.ref a_tp, .ref a_pa, .int fn, .int fk, .int fs, .int fp])), (a_tp, .inr (10, [.ref a_tb, .int tt, .int ta, .int tj, .int tf, .int ts, .int te, .int to, .int tg, .int tx, .int ty])), (a_tb, .inl (ca_tb, 700, .inl fa_tb))] s.heap.size = A at hD hST ⊢
  have hA : ∀ q : Nat, s.heap.size ≤ q → A q := fun q h => by rw [← hAe]; exact Or.inr h
  have hS : va_S A s.heap s.heap [] := va_S.rf
  have hP : va_P (dC, dI) vwCl [(h0, .inr (1, [.ref a_tp, .ref a_pa, .int fn, .int fk, .int fs, .int fp])), (a_tp, .inr (10, [.ref a_tb, .int tt, .int ta, .int tj, .int tf, .int ts, .int te, .int to, .int tg, .int tx, .int ty])), (a_tb, .inl (ca_tb, 700, .inl fa_tb))] s.heap := hP
  have w__fieldLink_RX1_24_ShellHeap_FindsReader_tape_LShellHeap_Tape_ := hts (.fieldLink RX1 24 "ShellHeap$FindsReader" "tape" "LShellHeap$Tape;") (z_mc (z_ml z_m0))
  have hiX1 := show ∀ w ∈ u_ws RX1 TX1 6, w ∈ u_s_X1_readSieve from fun w h => z_mc (z_mr (z_ml h))
  have w__fieldLink_RX1_18_ShellHeap_FindsReader_sieve_I_ := hts (.fieldLink RX1 18 "ShellHeap$FindsReader" "sieve" "I") (z_mc (z_ml z_m5))
  have hl := lv_entry ([.ref h0]) (n := 1) (Nat.le_of_ble_eq_true rfl)
  rw [lg_entry_eq]
  generalize (lg_sl ([.ref h0]) ++ List.replicate (1 - (lg_sl ([.ref h0])).length) Slot.unset).toArray = ls at hl ⊢
  have hl : lv_has ls 1 [(0, .ref h0)] := hl
  refine lv_aload_n hx hb dX1_readSieve_0 rfl (lv_at hl 0 rfl) ?_
  refine lv_aload_n hx hb dX1_readSieve_1 rfl (lv_at hl 0 rfl) ?_
  refine va_get (D := (dC, dI)) (ci := 1) (v := .ref a_tp) (C := RX1) (T := TX1) (N := 6) hx hb hts hiX1 hown hK hP 0 rfl rfl 0 (by decide) w__fieldLink_RX1_24_ShellHeap_FindsReader_tape_LShellHeap_Tape_ (fun _ h9 => h9) rfl dX1_readSieve_2 ?_
  refine lv_bipush (v := 115) hx hb dX1_readSieve_5 (by decide) ?_
  obtain ⟨hPc, hDc⟩ := z_sub2 (ws' := [(a_tp, .inr (10, [.ref a_tb, .int tt, .int ta, .int tj, .int tf, .int ts, .int te, .int to, .int tg, .int tx, .int ty])), (a_tb, .inl (ca_tb, 700, .inl fa_tb))]) hP hD [1, 2] (by decide) rfl
  have hKc := hK
  have hFc := va_free (ws := []) (wc := []) (z_D0 _) hS hA [] rfl
  refine va_calli (va_runV (As := [.int 115]) (rest := [.ref h0]) ⟨hx, hb, hml, hown, hts⟩ (s_X10_numberBehind l dC dI s.heap.size a_tp 115 a_tb tt (.int ta) (.int tj) (.int tf) ts te to (.int tg) (.int tx) (.int ty) ca_tb fa_tb hB_tt hB_ts hB_te hI_a_tb hTok) (cwV 1 hts gw_s_X1_readSieve_s_X10_numberBehind_74 rfl rfl rfl (by decide +kernel) ⟨Nat.le_of_ble_eq_true rfl, Nat.le_of_ble_eq_true rfl⟩) ⟨z_blind, va_recv hKc hPc (ci := 10) (q0 := 0) rfl rfl, z_pre hPc hKc hDc⟩ rfl rfl hl.1 rfl (lv_room (Nat.le_of_ble_eq_true rfl)) dX1_readSieve_7 ⟨Nat.le_of_ble_eq_true rfl, Nat.le_of_ble_eq_true rfl⟩) hS (fun q _ h => hFc q h) hFc (fun r_2 u t H_1 locs ht hvm hw_3 hB hz1 hk1 hS => ?_)
  replace hP := z_pure hP hk1
  clear hPc hDc hKc
  refine va_put (D := (dC, dI)) (ci := 1) (v := .int r_2) (ty := .int) (C := RX1) (T := TX1) (N := 6) hx hb hts hiX1 tyX1 tyX1_ok nmX1 hown hK hP hD hS 0 rfl rfl 4 (by decide) w__fieldLink_RX1_18_ShellHeap_FindsReader_sieve_I_ (fun _ h9 => h9) rfl (by decide +kernel) rfl rfl (Nat.le_of_ble_eq_true rfl) dX1_readSieve_10 (fun H_4 locs hP hD hS => ?_)
  obtain ⟨hP, hD⟩ := z_s_0_4 hP hD
  refine lv_aload_n hx hb dX1_readSieve_13 rfl (lv_at hl 0 rfl) ?_
  refine va_get (D := (dC, dI)) (ci := 1) (v := .int r_2) (C := RX1) (T := TX1) (N := 6) hx hb hts hiX1 hown hK hP 0 rfl rfl 4 (by decide) w__fieldLink_RX1_18_ShellHeap_FindsReader_sieve_I_ (fun _ h9 => h9) rfl dX1_readSieve_14 ?_
  refine lv_iconst (v := (-1)) hx hb dX1_readSieve_17 (by decide) ?_
  refine lv_icmp_ne (tgt := 30) hx hb dX1_readSieve_18 (by decide) (fun c_5 => ?_) (fun c_5 => ?_)
  · have k_6 : (r_2).toInt ≠ (-1 : Int) := z_ne c_5
    refine lv_aload_n hx hb dX1_readSieve_30 rfl (lv_at hl 0 rfl) ?_
    refine va_get (D := (dC, dI)) (ci := 1) (v := .int r_2) (C := RX1) (T := TX1) (N := 6) hx hb hts hiX1 hown hK hP 0 rfl rfl 4 (by decide) w__fieldLink_RX1_18_ShellHeap_FindsReader_sieve_I_ (fun _ h9 => h9) rfl dX1_readSieve_31 ?_
    refine lv_iconst (v := 4) hx hb dX1_readSieve_34 (by decide) ?_
    refine lv_icmp_lt (tgt := 47) hx hb dX1_readSieve_35 (by decide) (fun c_7 => ?_) (fun c_7 => ?_)
    · have k_8 : (r_2).toInt < (4 : Int) := z_lt c_7
      refine lv_aload_n hx hb dX1_readSieve_47 rfl (lv_at hl 0 rfl) ?_
      refine va_get (D := (dC, dI)) (ci := 1) (v := .ref a_tp) (C := RX1) (T := TX1) (N := 6) hx hb hts hiX1 hown hK hP 0 rfl rfl 0 (by decide) w__fieldLink_RX1_24_ShellHeap_FindsReader_tape_LShellHeap_Tape_ (fun _ h9 => h9) rfl dX1_readSieve_48 ?_
      obtain ⟨hPc, hDc, hFc⟩ := z_sub3 (ws' := [(a_tp, .inr (10, [.ref a_tb, .int tt, .int ta, .int tj, .int tf, .int ts, .int te, .int to, .int tg, .int tx, .int ty])), (a_tb, .inl (ca_tb, 700, .inl fa_tb))]) hP hD hS hA [1, 2] (by decide) rfl
      have hKc := hK
      refine va_callv (va_runV (As := []) (rest := []) ⟨hx, hb, hml, hown, hts⟩ (s_X10_next2 l dC dI H_4.size a_tp a_tb tt ta tj tf ts te to tg tx ty ca_tb fa_tb hB_tt hB_ta hB_tf hB_ts hB_te hI_a_tb (by first | omega | decide)) (cwV 0 hts gw_s_X1_readSieve_s_X10_next2_62 rfl rfl rfl (by decide +kernel) ⟨Nat.le_of_ble_eq_true rfl, Nat.le_of_ble_eq_true rfl⟩) ⟨z_blind, va_recv hKc hPc (ci := 10) (q0 := 0) rfl rfl, z_pre hPc hKc hDc⟩ rfl rfl hl.1 rfl (lv_room (Nat.le_of_ble_eq_true rfl)) dX1_readSieve_51 ⟨Nat.le_of_ble_eq_true rfl, Nat.le_of_ble_eq_true rfl⟩) hS (fun q _ h => hFc q h) hFc (fun u t H_9 locs ht hvm hw_11 hB hz1 hk1 hS => ?_)
      obtain ⟨n_h0_at_12, n_h0_start_13, n_h0_end_14, n_h0_sort_15, n_h0_sign_16, hp_17, hp_18, hp_19, hp_20, hp_21, hP1, hK1, hD1⟩ := hB
      rw [ht] at hP1
      have hK1 := va_K.moved hvm.symm hK1
      obtain ⟨hP, hD⟩ := z_ap_1 (va_join (wr := [(h0, .inr (1, [.ref a_tp, .ref a_pa, .int fn, .int fk, .int r_2, .int fp]))]) hP hD [1, 2] [0] rfl rfl (by decide) (by decide) hk1 hFc hP1 hD1)
      have hp_20 : (n_h0_sort_15.toInt = (1 : Int) → z_tok fa_tb n_h0_start_13.toInt n_h0_end_14.toInt ∧ n_h0_end_14.toInt ≤ tt.toInt) := hp_20
      have hp_21 : n_h0_at_12.toInt ≤ tt.toInt := hp_21
      clear hPc hDc hKc
      refine lv_iconst (v := 1) hx hb dX1_readSieve_54 (by decide) ?_
      have hP9 := hP
      have hD9 := hD
      have hK9 := hK.sub (tys' := []) [] rfl
      refine W.widen (k := 0) (n := 0) (Nat.le_of_ble_eq_true rfl) (Nat.le_of_ble_eq_true rfl) ?_
      exact W.zret (v := 1) hx hb hr (by rfl) (fun t ht hW => ⟨⟨1, 1, rfl, ⟨rfl, (Or.inl (⟨rfl, by first | omega | decide⟩))⟩, ⟨r_2, n_h0_at_12, n_h0_start_13, n_h0_end_14, n_h0_sort_15, n_h0_sign_16, tx, ty, hp_17, hp_18, hp_19, hp_20, (show n_h0_at_12.toInt ≤ tt.toInt by omega), (fun _ => (show ((0 : Int) ≤ r_2.toInt ∧ r_2.toInt ≤ (3 : Int)) by omega)), by rw [ht]; exact hP9, va_K.moved hW.alike hK9, hD9⟩⟩, hS.F ht⟩) hS.2.2 dX1_readSieve_55
    · have k_22 : (r_2).toInt ≥ (4 : Int) := z_nlt c_7
      refine lv_aload_n hx hb dX1_readSieve_38 rfl (lv_at hl 0 rfl) ?_
      refine va_get (D := (dC, dI)) (ci := 1) (v := .ref a_tp) (C := RX1) (T := TX1) (N := 6) hx hb hts hiX1 hown hK hP 0 rfl rfl 0 (by decide) w__fieldLink_RX1_24_ShellHeap_FindsReader_tape_LShellHeap_Tape_ (fun _ h9 => h9) rfl dX1_readSieve_39 ?_
      refine lv_iconst (v := 2) hx hb dX1_readSieve_42 (by decide) ?_
      obtain ⟨hPc, hDc, hFc⟩ := z_sub3 (ws' := [(a_tp, .inr (10, [.ref a_tb, .int tt, .int ta, .int tj, .int tf, .int ts, .int te, .int to, .int tg, .int tx, .int ty]))]) hP hD hS hA [1] (by decide) rfl
      have hKc := hK.sub (tys' := []) [] rfl
      refine va_calli (va_runV (As := [.int 2]) (rest := []) ⟨hx, hb, hml, hown, hts⟩ (s_X10_fail l dC dI H_4.size a_tp 2 (.ref a_tb) (.int tt) (.int ta) (.int tj) (.int tf) ts (.int te) (.int to) (.int tg) tx ty hB_ts) (cwV 1 hts gw_s_X1_readSieve_s_X10_fail_55 rfl rfl rfl (by decide +kernel) ⟨Nat.le_of_ble_eq_true rfl, Nat.le_of_ble_eq_true rfl⟩) ⟨z_blind, va_recv hKc hPc (ci := 10) (q0 := 0) rfl rfl, z_pre hPc hKc hDc⟩ rfl rfl hl.1 rfl (lv_room (Nat.le_of_ble_eq_true rfl)) dX1_readSieve_43 ⟨Nat.le_of_ble_eq_true rfl, Nat.le_of_ble_eq_true rfl⟩) hS (fun q _ h => hFc q h) hFc (fun r_24 u t H_23 locs ht hvm hw_25 hB hz1 hk1 hS => ?_)
      obtain ⟨n_h0_faultSort_26, n_h0_faultPlace_27, hP1, hK1, hD1⟩ := hB
      rw [ht] at hP1
      have hK1 := va_K.moved hvm.symm hK1
      obtain ⟨hP, hD⟩ := z_ap_2 (va_join (wr := [(h0, .inr (1, [.ref a_tp, .ref a_pa, .int fn, .int fk, .int r_2, .int fp])), (a_tb, .inl (ca_tb, 700, .inl fa_tb))]) hP hD [1] [0, 2] rfl rfl (by decide) (by decide) hk1 hFc hP1 hD1)
      clear hPc hDc hKc
      obtain rfl : r_24 = 0 := hw_25
      obtain ⟨hP9, hD9⟩ := z_sub2 (ws' := [(h0, .inr (1, [.ref a_tp, .ref a_pa, .int fn, .int fk, .int r_2, .int fp])), (a_tp, .inr (10, [.ref a_tb, .int tt, .int ta, .int tj, .int tf, .int ts, .int te, .int to, .int tg, .int n_h0_faultSort_26, .int n_h0_faultPlace_27])), (a_tb, .inl (ca_tb, 700, .inl fa_tb))]) hP hD [0, 2, 1] (by decide) rfl
      have hK9 := hK.sub (tys' := []) [] rfl
      refine W.widen (k := 0) (n := 0) (Nat.le_of_ble_eq_true rfl) (Nat.le_of_ble_eq_true rfl) ?_
      exact W.zret (v := 0) hx hb hr (by rfl) (fun t ht hW => ⟨⟨0, 0, rfl, ⟨rfl, (Or.inr (⟨rfl, by first | omega | decide⟩))⟩, ⟨r_2, ta, ts, te, to, tg, n_h0_faultSort_26, n_h0_faultPlace_27, hB_ta, hB_ts, hB_te, hTok, (show ta.toInt ≤ tt.toInt by omega), (fun h9 => absurd h9 (by decide)), by rw [ht]; exact hP9, va_K.moved hW.alike hK9, hD9⟩⟩, hS.F ht⟩) hS.2.2 dX1_readSieve_46
  · have k_28 : (r_2).toInt = (-1 : Int) := z_eq c_5
    obtain rfl : r_2 = (-1) := z_eq' (show (r_2).toInt = (-1 : Int) by omega)
    refine lv_aload_n hx hb dX1_readSieve_21 rfl (lv_at hl 0 rfl) ?_
    refine va_get (D := (dC, dI)) (ci := 1) (v := .ref a_tp) (C := RX1) (T := TX1) (N := 6) hx hb hts hiX1 hown hK hP 0 rfl rfl 0 (by decide) w__fieldLink_RX1_24_ShellHeap_FindsReader_tape_LShellHeap_Tape_ (fun _ h9 => h9) rfl dX1_readSieve_22 ?_
    refine lv_iconst (v := 1) hx hb dX1_readSieve_25 (by decide) ?_
    obtain ⟨hPc, hDc, hFc⟩ := z_sub3 (ws' := [(a_tp, .inr (10, [.ref a_tb, .int tt, .int ta, .int tj, .int tf, .int ts, .int te, .int to, .int tg, .int tx, .int ty]))]) hP hD hS hA [1] (by decide) rfl
    have hKc := hK.sub (tys' := []) [] rfl
    refine va_calli (va_runV (As := [.int 1]) (rest := []) ⟨hx, hb, hml, hown, hts⟩ (s_X10_fail l dC dI H_4.size a_tp 1 (.ref a_tb) (.int tt) (.int ta) (.int tj) (.int tf) ts (.int te) (.int to) (.int tg) tx ty hB_ts) (cwV 1 hts gw_s_X1_readSieve_s_X10_fail_55 rfl rfl rfl (by decide +kernel) ⟨Nat.le_of_ble_eq_true rfl, Nat.le_of_ble_eq_true rfl⟩) ⟨z_blind, va_recv hKc hPc (ci := 10) (q0 := 0) rfl rfl, z_pre hPc hKc hDc⟩ rfl rfl hl.1 rfl (lv_room (Nat.le_of_ble_eq_true rfl)) dX1_readSieve_26 ⟨Nat.le_of_ble_eq_true rfl, Nat.le_of_ble_eq_true rfl⟩) hS (fun q _ h => hFc q h) hFc (fun r_31 u t H_30 locs ht hvm hw_32 hB hz1 hk1 hS => ?_)
    obtain ⟨n_h0_faultSort_33, n_h0_faultPlace_34, hP1, hK1, hD1⟩ := hB
    rw [ht] at hP1
    have hK1 := va_K.moved hvm.symm hK1
    obtain ⟨hP, hD⟩ := z_ap_2 (va_join (wr := [(h0, .inr (1, [.ref a_tp, .ref a_pa, .int fn, .int fk, .int (-1), .int fp])), (a_tb, .inl (ca_tb, 700, .inl fa_tb))]) hP hD [1] [0, 2] rfl rfl (by decide) (by decide) hk1 hFc hP1 hD1)
    clear hPc hDc hKc
    obtain rfl : r_31 = 0 := hw_32
    obtain ⟨hP9, hD9⟩ := z_sub2 (ws' := [(h0, .inr (1, [.ref a_tp, .ref a_pa, .int fn, .int fk, .int (-1), .int fp])), (a_tp, .inr (10, [.ref a_tb, .int tt, .int ta, .int tj, .int tf, .int ts, .int te, .int to, .int tg, .int n_h0_faultSort_33, .int n_h0_faultPlace_34])), (a_tb, .inl (ca_tb, 700, .inl fa_tb))]) hP hD [0, 2, 1] (by decide) rfl
    have hK9 := hK.sub (tys' := []) [] rfl
    refine W.widen (k := 0) (n := 0) (Nat.le_of_ble_eq_true rfl) (Nat.le_of_ble_eq_true rfl) ?_
    exact W.zret (v := 0) hx hb hr (by rfl) (fun t ht hW => ⟨⟨0, 0, rfl, ⟨rfl, (Or.inr (⟨rfl, by first | omega | decide⟩))⟩, ⟨(-1), ta, ts, te, to, tg, n_h0_faultSort_33, n_h0_faultPlace_34, hB_ta, hB_ts, hB_te, hTok, (show ta.toInt ≤ tt.toInt by omega), (fun h9 => absurd h9 (by decide)), by rw [ht]; exact hP9, va_K.moved hW.alike hK9, hD9⟩⟩, hS.F ht⟩) hS.2.2 dX1_readSieve_29
def u_s_X1_readPart : List Cond := .code yX1_readPart cX1_readPart 3 (some .boolean) :: ([.fieldLink RX1 24 "ShellHeap$FindsReader" "tape" "LShellHeap$Tape;", .methodLink RX1 83 yX10_wordIn, .instanceMethod yX10_wordIn, .selects RX10 yX10_wordIn yX10_wordIn, .initialized RX10, .fieldLink RX1 21 "ShellHeap$FindsReader" "toldParts" "I", .methodLink RX1 62 yX10_next, .instanceMethod yX10_next, .selects RX10 yX10_next yX10_next, .fieldLink RX1 48 "ShellHeap$Tape" "sort" "I", .fieldLink RX1 87 "ShellHeap$Tape" "start" "I", .methodLink RX1 90 yX10_numberFrom, .instanceMethod yX10_numberFrom, .selects RX10 yX10_numberFrom yX10_numberFrom, .fieldLink RX1 28 "ShellHeap$FindsReader" "pantry" "LShellHeap$Pantry;", .fieldLink RX1 9 "ShellHeap$FindsReader" "note" "I", .fieldLink RX1 15 "ShellHeap$FindsReader" "kind" "I", .fieldLink RX1 18 "ShellHeap$FindsReader" "sieve" "I", .methodLink RX1 94 yX5_add, .instanceMethod yX5_add, .selects RX5 yX5_add yX5_add, .initialized RX5, .methodLink RX1 55 yX10_fail, .instanceMethod yX10_fail, .selects RX10 yX10_fail yX10_fail] ++ (wsX10 ++ (wsX100 ++ (u_s_X10_wordIn ++ (u_s_X10_next2 ++ (u_s_X10_numberFrom ++ (u_s_X5_add ++ (u_s_X10_fail ++ []))))))))
theorem gd_s_X1_readPart : z_gd u_s_X1_readPart := z_gdc (by decide +kernel) (z_gda gdX1 (z_gda gdX10 (z_gda gd_s_X10_wordIn (z_gda gd_s_X10_next2 (z_gda gd_s_X10_numberFrom (z_gda gd_s_X5_add (z_gda gd_s_X10_fail (z_gd0))))))))
set_option maxRecDepth 20000 in
theorem gw_s_X1_readPart_s_X10_wordIn_83 : GoodIn u_s_X1_readPart (wsV RX1 83 RX10 yX10_wordIn u_s_X10_wordIn) := z_gV (z_gr _ [2, 3, 4, 5] rfl (by decide +kernel)) (fun w h => ⟨z_mc (z_mr (z_mr (z_mr (z_ml h)))), gd_s_X10_wordIn w h⟩)
set_option maxRecDepth 20000 in
theorem gw_s_X1_readPart_s_X10_next2_62 : GoodIn u_s_X1_readPart (wsV RX1 62 RX10 yX10_next u_s_X10_next2) := z_gV (z_gr _ [7, 8, 9, 5] rfl (by decide +kernel)) (fun w h => ⟨z_mc (z_mr (z_mr (z_mr (z_mr (z_ml h))))), gd_s_X10_next2 w h⟩)
set_option maxRecDepth 20000 in
theorem gw_s_X1_readPart_s_X10_numberFrom_90 : GoodIn u_s_X1_readPart (wsV RX1 90 RX10 yX10_numberFrom u_s_X10_numberFrom) := z_gV (z_gr _ [12, 13, 14, 5] rfl (by decide +kernel)) (fun w h => ⟨z_mc (z_mr (z_mr (z_mr (z_mr (z_mr (z_ml h)))))), gd_s_X10_numberFrom w h⟩)
set_option maxRecDepth 20000 in
theorem gw_s_X1_readPart_s_X5_add_94 : GoodIn u_s_X1_readPart (wsV RX1 94 RX5 yX5_add u_s_X5_add) := z_gV (z_gr _ [19, 20, 21, 22] rfl (by decide +kernel)) (fun w h => ⟨z_mc (z_mr (z_mr (z_mr (z_mr (z_mr (z_mr (z_ml h))))))), gd_s_X5_add w h⟩)
set_option maxRecDepth 20000 in
theorem gw_s_X1_readPart_s_X10_fail_55 : GoodIn u_s_X1_readPart (wsV RX1 55 RX10 yX10_fail u_s_X10_fail) := z_gV (z_gr _ [23, 24, 25, 5] rfl (by decide +kernel)) (fun w h => ⟨z_mc (z_mr (z_mr (z_mr (z_mr (z_mr (z_mr (z_mr (z_ml h)))))))), gd_s_X10_fail w h⟩)
set_option maxHeartbeats 4000000 in
set_option maxRecDepth 100000 in
theorem s_X1_readPart (l : Launch) (dC : Nat → ClassId) (dI : Nat → Nat → Nat) (sz : Nat) (sd : Nat → Nat) (sv : Nat → Nat) (sf : Value) (h0 : Nat) (a_tp : Nat) (a_pa : Nat) (fn : Int32) (fk : Int32) (fs : Int32) (fp : Int32) (a_tb : Nat) (tt : Int32) (ta : Int32) (tj : Int32) (tf : Int32) (ts : Int32) (te : Int32) (to : Int32) (tg : Int32) (tx : Int32) (ty : Int32) (ca_tb : ClassId) (fa_tb : Nat → Int32) (a_pa_0 : Value) (a_pa_1 : Value) (a_fo : Nat) (a_pa_3 : Value) (a_pa_4 : Value) (a_pa_5 : Value) (a_pa_6 : Value) (a_pa_7 : Value) (a_pa_8 : Value) (pk : Int32) (ca_fo : ClassId) (fa_fo : Nat → Int32) (hB_tt : ((0 : Int) ≤ (tt).toInt ∧ (tt).toInt ≤ (700 : Int))) (hB_ta : ((0 : Int) ≤ (ta).toInt ∧ (ta).toInt ≤ (700 : Int))) (hB_tf : ((0 : Int) ≤ (tf).toInt ∧ (tf).toInt ≤ (700 : Int))) (hB_ts : ((0 : Int) ≤ (ts).toInt ∧ (ts).toInt ≤ (700 : Int))) (hB_te : ((0 : Int) ≤ (te).toInt ∧ (te).toInt ≤ (700 : Int))) (hB_fn : ((0 : Int) ≤ (fn).toInt ∧ (fn).toInt ≤ (79 : Int))) (hB_fk : ((0 : Int) ≤ (fk).toInt ∧ (fk).toInt ≤ (5 : Int))) (hB_fs : ((0 : Int) ≤ (fs).toInt ∧ (fs).toInt ≤ (3 : Int))) (hI_a_tb : ∀ j : Nat, ((0 : Int) ≤ (fa_tb j).toInt ∧ (fa_tb j).toInt ≤ (255 : Int))) (hTok : (to.toInt = (1 : Int) → z_tok fa_tb ts.toInt te.toInt ∧ te.toInt ≤ tt.toInt)) (hle : ta.toInt ≤ tt.toInt) : Met l yX1_readPart u_s_X1_readPart ({ frames := 5, cells := 0, slots := 0, locals := 111 }) (va_Pc [.ref h0] (z_CS (dC, dI) vwCl [(h0, .inr (1, [.ref a_tp, .ref a_pa, .int fn, .int fk, .int fs, .int fp])), (a_tp, .inr (10, [.ref a_tb, .int tt, .int ta, .int tj, .int tf, .int ts, .int te, .int to, .int tg, .int tx, .int ty])), (a_tb, .inl (ca_tb, 700, .inl fa_tb)), (a_pa, .inr (5, [a_pa_0, a_pa_1, .ref a_fo, a_pa_3, a_pa_4, a_pa_5, a_pa_6, a_pa_7, a_pa_8, .int pk])), (a_fo, .inl (ca_fo, 11520, .inl fa_fo))] [(ca_tb, .int), (ca_fo, .int)] sz sd sv sf [(h0, .inr (1, [.ref a_tp, .ref a_pa, .int fn, .int fk, .int fs, .int fp])), (a_tp, .inr (10, [.ref a_tb, .int tt, .int ta, .int tj, .int tf, .int ts, .int te, .int to, .int tg, .int tx, .int ty])), (a_tb, .inl (ca_tb, 700, .inl fa_tb)), (a_pa, .inr (5, [a_pa_0, a_pa_1, .ref a_fo, a_pa_3, a_pa_4, a_pa_5, a_pa_6, a_pa_7, a_pa_8, .int pk])), (a_fo, .inl (ca_fo, 11520, .inl fa_fo))])) (va_Qi (fun (r : Int32) (_ : Unit) => (r = 1 ∧ True) ∨ (r = 0 ∧ True)) (fun (_ : Unit) (t : State) => ∃ (n_h0_toldParts : Int32), ∃ (n_a_tp_at : Int32), ∃ (n_a_tp_start : Int32), ∃ (n_a_tp_end : Int32), ∃ (n_a_tp_sort : Int32), ∃ (n_a_tp_sign : Int32), ∃ (n_a_tp_faultSort : Int32), ∃ (n_a_tp_faultPlace : Int32), ∃ (g_a_fo : Nat → Int32), ((0 : Int) ≤ (n_a_tp_at).toInt ∧ (n_a_tp_at).toInt ≤ (700 : Int)) ∧ ((0 : Int) ≤ (n_a_tp_start).toInt ∧ (n_a_tp_start).toInt ≤ (700 : Int)) ∧ ((0 : Int) ≤ (n_a_tp_end).toInt ∧ (n_a_tp_end).toInt ≤ (700 : Int)) ∧ ((n_a_tp_sort.toInt = (1 : Int) → z_tok fa_tb n_a_tp_start.toInt n_a_tp_end.toInt ∧ n_a_tp_end.toInt ≤ tt.toInt)) ∧ (n_a_tp_at.toInt ≤ tt.toInt) ∧ va_P (dC, dI) vwCl [(h0, .inr (1, [.ref a_tp, .ref a_pa, .int fn, .int fk, .int fs, .int n_h0_toldParts])), (a_tp, .inr (10, [.ref a_tb, .int tt, .int n_a_tp_at, .int tj, .int tf, .int n_a_tp_start, .int n_a_tp_end, .int n_a_tp_sort, .int n_a_tp_sign, .int n_a_tp_faultSort, .int n_a_tp_faultPlace])), (a_tb, .inl (ca_tb, 700, .inl fa_tb)), (a_pa, .inr (5, [a_pa_0, a_pa_1, .ref a_fo, a_pa_3, a_pa_4, a_pa_5, a_pa_6, a_pa_7, a_pa_8, .int pk])), (a_fo, .inl (ca_fo, 11520, .inl g_a_fo))] t.heap ∧ va_K (dC, dI) vwCl [] t ∧ va_D (va_A [(h0, .inr (1, [.ref a_tp, .ref a_pa, .int fn, .int fk, .int fs, .int fp])), (a_tp, .inr (10, [.ref a_tb, .int tt, .int ta, .int tj, .int tf, .int ts, .int te, .int to, .int tg, .int tx, .int ty])), (a_tb, .inl (ca_tb, 700, .inl fa_tb)), (a_pa, .inr (5, [a_pa_0, a_pa_1, .ref a_fo, a_pa_3, a_pa_4, a_pa_5, a_pa_6, a_pa_7, a_pa_8, .int pk])), (a_fo, .inl (ca_fo, 11520, .inl fa_fo))] sz) [(h0, .inr (1, [.ref a_tp, .ref a_pa, .int fn, .int fk, .int fs, .int n_h0_toldParts])), (a_tp, .inr (10, [.ref a_tb, .int tt, .int n_a_tp_at, .int tj, .int tf, .int n_a_tp_start, .int n_a_tp_end, .int n_a_tp_sort, .int n_a_tp_sign, .int n_a_tp_faultSort, .int n_a_tp_faultPlace])), (a_tb, .inl (ca_tb, 700, .inl fa_tb)), (a_pa, .inr (5, [a_pa_0, a_pa_1, .ref a_fo, a_pa_3, a_pa_4, a_pa_5, a_pa_6, a_pa_7, a_pa_8, .int pk])), (a_fo, .inl (ca_fo, 11520, .inl g_a_fo))]) (va_A [(h0, .inr (1, [.ref a_tp, .ref a_pa, .int fn, .int fk, .int fs, .int fp])), (a_tp, .inr (10, [.ref a_tb, .int tt, .int ta, .int tj, .int tf, .int ts, .int te, .int to, .int tg, .int tx, .int ty])), (a_tb, .inl (ca_tb, 700, .inl fa_tb)), (a_pa, .inr (5, [a_pa_0, a_pa_1, .ref a_fo, a_pa_3, a_pa_4, a_pa_5, a_pa_6, a_pa_7, a_pa_8, .int pk])), (a_fo, .inl (ca_fo, 11520, .inl fa_fo))] sz)) 0 0 (va_A [(h0, .inr (1, [.ref a_tp, .ref a_pa, .int fn, .int fk, .int fs, .int fp])), (a_tp, .inr (10, [.ref a_tb, .int tt, .int ta, .int tj, .int tf, .int ts, .int te, .int to, .int tg, .int tx, .int ty])), (a_tb, .inl (ca_tb, 700, .inl fa_tb)), (a_pa, .inr (5, [a_pa_0, a_pa_1, .ref a_fo, a_pa_3, a_pa_4, a_pa_5, a_pa_6, a_pa_7, a_pa_8, .int pk])), (a_fo, .inl (ca_fo, 11520, .inl fa_fo))] sz) := by
  refine Met.ofW (cc := cX1_readPart) (maxL := 3) (ret := (some .boolean)) (by decide) rfl ?_
  intro p e s m args below meth c s₁ B hml hv
  obtain ⟨rfl, ⟨hsz, hP, hK, hD0⟩, hST⟩ := hv
  have hx := B.exec
  have hb := B.bytes
  have hr := B.returns
  have hts := atoms_spec (ws := u_s_X1_readPart) B.pre
  have hown : s.vm.findClass RX1 = some m.cls := findClass_of_methodNamed B.named
  have hlocks := B.notSynchronized
  subst hsz
  have hD := hD0.self (sz := s.heap.size)
  generalize hAe : va_A [(h0, .inr (1, [.ref a_tp, .ref a_pa, .int fn, .int fk, .int fs, .int fp])), (a_tp, .inr (10, [.ref a_tb, .int tt, .int ta, .int tj, .int tf, .int ts, .int te, .int to, .int tg, .int tx, .int ty])), (a_tb, .inl (ca_tb, 700, .inl fa_tb)), (a_pa, .inr (5, [a_pa_0, a_pa_1, .ref a_fo, a_pa_3, a_pa_4, a_pa_5, a_pa_6, a_pa_7, a_pa_8, .int pk])), (a_fo, .inl (ca_fo, 11520, .inl fa_fo))] s.heap.size = A at hD hST ⊢
  have hA : ∀ q : Nat, s.heap.size ≤ q → A q := fun q h => by rw [← hAe]; exact Or.inr h
  have hS : va_S A s.heap s.heap [] := va_S.rf
  have hP : va_P (dC, dI) vwCl [(h0, .inr (1, [.ref a_tp, .ref a_pa, .int fn, .int fk, .int fs, .int fp])), (a_tp, .inr (10, [.ref a_tb, .int tt, .int ta, .int tj, .int tf, .int ts, .int te, .int to, .int tg, .int tx, .int ty])), (a_tb, .inl (ca_tb, 700, .inl fa_tb)), (a_pa, .inr (5, [a_pa_0, a_pa_1, .ref a_fo, a_pa_3, a_pa_4, a_pa_5, a_pa_6, a_pa_7, a_pa_8, .int pk])), (a_fo, .inl (ca_fo, 11520, .inl fa_fo))] s.heap := hP
  have w__fieldLink_RX1_24_ShellHeap_FindsReader_tape_LShellHeap_Tape_ := hts (.fieldLink RX1 24 "ShellHeap$FindsReader" "tape" "LShellHeap$Tape;") (z_mc (z_ml z_m0))
  have hiX1 := show ∀ w ∈ u_ws RX1 TX1 6, w ∈ u_s_X1_readPart from fun w h => z_mc (z_mr (z_ml h))
  have w__fieldLink_RX1_21_ShellHeap_FindsReader_toldParts_I_ := hts (.fieldLink RX1 21 "ShellHeap$FindsReader" "toldParts" "I") (z_mc (z_ml z_m5))
  have w__fieldLink_RX1_48_ShellHeap_Tape_sort_I_ := hts (.fieldLink RX1 48 "ShellHeap$Tape" "sort" "I") (z_mc (z_ml z_m9))
  have hiX10 := show ∀ w ∈ u_ws RX10 TX10 11, w ∈ u_s_X1_readPart from fun w h => z_mc (z_mr (z_mr (z_ml h)))
  have w__fieldLink_RX1_87_ShellHeap_Tape_start_I_ := hts (.fieldLink RX1 87 "ShellHeap$Tape" "start" "I") (z_mc (z_ml z_m10))
  have w__fieldLink_RX1_28_ShellHeap_FindsReader_pantry_LShellHeap_Pantry_ := hts (.fieldLink RX1 28 "ShellHeap$FindsReader" "pantry" "LShellHeap$Pantry;") (z_mc (z_ml z_m14))
  have w__fieldLink_RX1_9_ShellHeap_FindsReader_note_I_ := hts (.fieldLink RX1 9 "ShellHeap$FindsReader" "note" "I") (z_mc (z_ml z_m15))
  have w__fieldLink_RX1_15_ShellHeap_FindsReader_kind_I_ := hts (.fieldLink RX1 15 "ShellHeap$FindsReader" "kind" "I") (z_mc (z_ml z_m16))
  have w__fieldLink_RX1_18_ShellHeap_FindsReader_sieve_I_ := hts (.fieldLink RX1 18 "ShellHeap$FindsReader" "sieve" "I") (z_mc (z_ml z_m17))
  have hl := lv_entry ([.ref h0]) (n := 3) (Nat.le_of_ble_eq_true rfl)
  rw [lg_entry_eq]
  generalize (lg_sl ([.ref h0]) ++ List.replicate (3 - (lg_sl ([.ref h0])).length) Slot.unset).toArray = ls at hl ⊢
  have hl : lv_has ls 3 [(0, .ref h0)] := hl
  refine lv_aload_n hx hb dX1_readPart_0 rfl (lv_at hl 0 rfl) ?_
  refine va_get (D := (dC, dI)) (ci := 1) (v := .ref a_tp) (C := RX1) (T := TX1) (N := 6) hx hb hts hiX1 hown hK hP 0 rfl rfl 0 (by decide) w__fieldLink_RX1_24_ShellHeap_FindsReader_tape_LShellHeap_Tape_ (fun _ h9 => h9) rfl dX1_readPart_1 ?_
  refine va_ldcS hx hb hown hST.2.2.2.1 dX1_readPart_4 ?_
  obtain ⟨hPc, hDc⟩ := z_sub2 (ws' := [(a_tp, .inr (10, [.ref a_tb, .int tt, .int ta, .int tj, .int tf, .int ts, .int te, .int to, .int tg, .int tx, .int ty])), (a_tb, .inl (ca_tb, 700, .inl fa_tb))]) hP hD [1, 2] (by decide) rfl
  have hKc := hK.sub (tys' := [(ca_tb, .int)]) [0] rfl
  have hFc := va_free (ws := []) (wc := []) (z_D0 _) hS hA [] rfl
  refine va_calli (va_runV (As := [.ref (sd 0)]) (rest := []) ⟨hx, hb, hml, hown, hts⟩ (s_X10_wordIn l dC dI s.heap.size sd sv sf 0 a_tp a_tb tt (.int ta) (.int tj) (.int tf) ts te to (.int tg) (.int tx) (.int ty) ca_tb fa_tb hB_tt hB_ts hB_te hI_a_tb (by decide)) (cwV 1 hts gw_s_X1_readPart_s_X10_wordIn_83 rfl rfl rfl (by decide +kernel) ⟨Nat.le_of_ble_eq_true rfl, Nat.le_of_ble_eq_true rfl⟩) ⟨z_blindS, va_recv hKc hPc (ci := 10) (q0 := 0) rfl rfl, z_preS hPc hKc hDc ((hST.kept hS.2.1).narrow hFc)⟩ rfl rfl hl.1 rfl (lv_room (Nat.le_of_ble_eq_true rfl)) dX1_readPart_6 ⟨Nat.le_of_ble_eq_true rfl, Nat.le_of_ble_eq_true rfl⟩) hS (fun q _ h => hFc q h) hFc (fun r_2 u t H_1 locs ht hvm hw_3 hB hz1 hk1 hS => ?_)
  replace hP := z_pure hP hk1
  clear hPc hDc hKc
  have hnw0 : z_nw.getD 0 0 = 5 := rfl
  have kp_r_2 : (-1 : Int) ≤ (r_2).toInt ∧ (r_2).toInt ≤ (5 : Int) := hw_3
  refine lv_istore_n (lv' := [(1, .int r_2), (0, .ref h0)]) hx hb dX1_readPart_9 rfl hl (by decide) rfl (fun ls hl => ?_)
  refine lv_iload_n hx hb dX1_readPart_10 rfl (lv_at hl 0 rfl) ?_
  refine lv_iconst (v := (-1)) hx hb dX1_readPart_11 (by decide) ?_
  refine lv_icmp_ne (tgt := 24) hx hb dX1_readPart_12 (by decide) (fun c_4 => ?_) (fun c_4 => ?_)
  · have k_5 : (r_2).toInt ≠ (-1 : Int) := z_ne c_4
    refine lv_aload_n hx hb dX1_readPart_24 rfl (lv_at hl 1 rfl) ?_
    refine va_get (D := (dC, dI)) (ci := 1) (v := .int fp) (C := RX1) (T := TX1) (N := 6) hx hb hts hiX1 hown hK hP 0 rfl rfl 5 (by decide) w__fieldLink_RX1_21_ShellHeap_FindsReader_toldParts_I_ (fun _ h9 => h9) rfl dX1_readPart_25 ?_
    refine lv_iload_n hx hb dX1_readPart_28 rfl (lv_at hl 0 rfl) ?_
    refine lv_ishr hx hb dX1_readPart_29 ?_
    refine lv_topi (fun z_6 ez_6 => ?_)
    refine lv_iconst (v := 1) hx hb dX1_readPart_30 (by decide) ?_
    refine lv_iand hx hb dX1_readPart_31 ?_
    refine lv_topi (fun z_7 ez_7 => ?_)
    have kz_7 : (0 : Int) ≤ (z_7).toInt ∧ (z_7).toInt ≤ (1 : Int) := by rw [ez_7]; exact z_and _ 1 (by decide) (by decide)
    refine lv_if_eq (tgt := 44) hx hb dX1_readPart_32 (by decide) (fun c_8 => ?_) (fun c_8 => ?_)
    · have k_9 : (z_7).toInt = (0 : Int) := z_eq c_8
      obtain rfl : z_7 = 0 := z_eq' (show (z_7).toInt = (0 : Int) by omega)
      refine lv_aload_n hx hb dX1_readPart_44 rfl (lv_at hl 1 rfl) ?_
      refine lv_dup hx hb dX1_readPart_45 rfl ?_
      refine va_get (D := (dC, dI)) (ci := 1) (v := .int fp) (C := RX1) (T := TX1) (N := 6) hx hb hts hiX1 hown hK hP 0 rfl rfl 5 (by decide) w__fieldLink_RX1_21_ShellHeap_FindsReader_toldParts_I_ (fun _ h9 => h9) rfl dX1_readPart_46 ?_
      refine lv_iconst (v := 1) hx hb dX1_readPart_49 (by decide) ?_
      refine lv_iload_n hx hb dX1_readPart_50 rfl (lv_at hl 0 rfl) ?_
      refine lv_ishl hx hb dX1_readPart_51 ?_
      refine lv_topi (fun z_11 ez_11 => ?_)
      refine lv_ior hx hb dX1_readPart_52 ?_
      refine lv_topi (fun z_12 ez_12 => ?_)
      refine va_put (D := (dC, dI)) (ci := 1) (v := .int z_12) (ty := .int) (C := RX1) (T := TX1) (N := 6) hx hb hts hiX1 tyX1 tyX1_ok nmX1 hown hK hP hD hS 0 rfl rfl 5 (by decide) w__fieldLink_RX1_21_ShellHeap_FindsReader_toldParts_I_ (fun _ h9 => h9) rfl (by decide +kernel) rfl rfl (Nat.le_of_ble_eq_true rfl) dX1_readPart_53 (fun H_13 locs hP hD hS => ?_)
      obtain ⟨hP, hD⟩ := z_s_0_5 hP hD
      refine lv_aload_n hx hb dX1_readPart_56 rfl (lv_at hl 1 rfl) ?_
      refine va_get (D := (dC, dI)) (ci := 1) (v := .ref a_tp) (C := RX1) (T := TX1) (N := 6) hx hb hts hiX1 hown hK hP 0 rfl rfl 0 (by decide) w__fieldLink_RX1_24_ShellHeap_FindsReader_tape_LShellHeap_Tape_ (fun _ h9 => h9) rfl dX1_readPart_57 ?_
      obtain ⟨hPc, hDc, hFc⟩ := z_sub3 (ws' := [(a_tp, .inr (10, [.ref a_tb, .int tt, .int ta, .int tj, .int tf, .int ts, .int te, .int to, .int tg, .int tx, .int ty])), (a_tb, .inl (ca_tb, 700, .inl fa_tb))]) hP hD hS hA [1, 2] (by decide) rfl
      have hKc := hK.sub (tys' := [(ca_tb, .int)]) [0] rfl
      refine va_callv (va_runV (As := []) (rest := []) ⟨hx, hb, hml, hown, hts⟩ (s_X10_next2 l dC dI H_13.size a_tp a_tb tt ta tj tf ts te to tg tx ty ca_tb fa_tb hB_tt hB_ta hB_tf hB_ts hB_te hI_a_tb (by first | omega | decide)) (cwV 0 hts gw_s_X1_readPart_s_X10_next2_62 rfl rfl rfl (by decide +kernel) ⟨Nat.le_of_ble_eq_true rfl, Nat.le_of_ble_eq_true rfl⟩) ⟨z_blind, va_recv hKc hPc (ci := 10) (q0 := 0) rfl rfl, z_pre hPc hKc hDc⟩ rfl rfl hl.1 rfl (lv_room (Nat.le_of_ble_eq_true rfl)) dX1_readPart_60 ⟨Nat.le_of_ble_eq_true rfl, Nat.le_of_ble_eq_true rfl⟩) hS (fun q _ h => hFc q h) hFc (fun u t H_14 locs ht hvm hw_16 hB hz1 hk1 hS => ?_)
      obtain ⟨n_h0_at_17, n_h0_start_18, n_h0_end_19, n_h0_sort_20, n_h0_sign_21, hp_22, hp_23, hp_24, hp_25, hp_26, hP1, hK1, hD1⟩ := hB
      rw [ht] at hP1
      have hK1 := va_K.moved hvm.symm hK1
      obtain ⟨hP, hD⟩ := z_ap_3 (va_join (wr := [(h0, .inr (1, [.ref a_tp, .ref a_pa, .int fn, .int fk, .int fs, .int z_12])), (a_pa, .inr (5, [a_pa_0, a_pa_1, .ref a_fo, a_pa_3, a_pa_4, a_pa_5, a_pa_6, a_pa_7, a_pa_8, .int pk])), (a_fo, .inl (ca_fo, 11520, .inl fa_fo))]) hP hD [1, 2] [0, 3, 4] rfl rfl (by decide) (by decide) hk1 hFc hP1 hD1)
      have hp_25 : (n_h0_sort_20.toInt = (1 : Int) → z_tok fa_tb n_h0_start_18.toInt n_h0_end_19.toInt ∧ n_h0_end_19.toInt ≤ tt.toInt) := hp_25
      have hp_26 : n_h0_at_17.toInt ≤ tt.toInt := hp_26
      clear hPc hDc hKc
      refine lv_aload_n hx hb dX1_readPart_63 rfl (lv_at hl 1 rfl) ?_
      refine va_get (D := (dC, dI)) (ci := 1) (v := .ref a_tp) (C := RX1) (T := TX1) (N := 6) hx hb hts hiX1 hown hK hP 0 rfl rfl 0 (by decide) w__fieldLink_RX1_24_ShellHeap_FindsReader_tape_LShellHeap_Tape_ (fun _ h9 => h9) rfl dX1_readPart_64 ?_
      refine va_get (D := (dC, dI)) (ci := 10) (v := .int n_h0_sort_20) (C := RX10) (T := TX10) (N := 11) hx hb hts hiX10 hown hK hP 3 rfl rfl 7 (by decide) w__fieldLink_RX1_48_ShellHeap_Tape_sort_I_ (fun _ h9 => h9) rfl dX1_readPart_67 ?_
      refine lv_iconst (v := 2) hx hb dX1_readPart_70 (by decide) ?_
      refine lv_icmp_eq (tgt := 83) hx hb dX1_readPart_71 (by decide) (fun c_27 => ?_) (fun c_27 => ?_)
      · have k_28 : (n_h0_sort_20).toInt = (2 : Int) := z_eq c_27
        obtain rfl : n_h0_sort_20 = 2 := z_eq' (show (n_h0_sort_20).toInt = (2 : Int) by omega)
        refine lv_aload_n hx hb dX1_readPart_83 rfl (lv_at hl 1 rfl) ?_
        refine va_get (D := (dC, dI)) (ci := 1) (v := .ref a_tp) (C := RX1) (T := TX1) (N := 6) hx hb hts hiX1 hown hK hP 0 rfl rfl 0 (by decide) w__fieldLink_RX1_24_ShellHeap_FindsReader_tape_LShellHeap_Tape_ (fun _ h9 => h9) rfl dX1_readPart_84 ?_
        refine lv_aload_n hx hb dX1_readPart_87 rfl (lv_at hl 1 rfl) ?_
        refine va_get (D := (dC, dI)) (ci := 1) (v := .ref a_tp) (C := RX1) (T := TX1) (N := 6) hx hb hts hiX1 hown hK hP 0 rfl rfl 0 (by decide) w__fieldLink_RX1_24_ShellHeap_FindsReader_tape_LShellHeap_Tape_ (fun _ h9 => h9) rfl dX1_readPart_88 ?_
        refine va_get (D := (dC, dI)) (ci := 10) (v := .int n_h0_start_18) (C := RX10) (T := TX10) (N := 11) hx hb hts hiX10 hown hK hP 3 rfl rfl 5 (by decide) w__fieldLink_RX1_87_ShellHeap_Tape_start_I_ (fun _ h9 => h9) rfl dX1_readPart_91 ?_
        obtain ⟨hPc, hDc⟩ := z_sub2 (ws' := [(a_tp, .inr (10, [.ref a_tb, .int tt, .int n_h0_at_17, .int tj, .int tf, .int n_h0_start_18, .int n_h0_end_19, .int 2, .int n_h0_sign_21, .int tx, .int ty])), (a_tb, .inl (ca_tb, 700, .inl fa_tb))]) hP hD [3, 4] (by decide) rfl
        have hKc := hK.sub (tys' := [(ca_tb, .int)]) [0] rfl
        have hFc := va_free (ws := []) (wc := []) (z_D0 _) hS hA [] rfl
        refine va_calli (va_runV (As := [.int n_h0_start_18]) (rest := []) ⟨hx, hb, hml, hown, hts⟩ (s_X10_numberFrom l dC dI H_14.size a_tp n_h0_start_18 a_tb tt (.int n_h0_at_17) (.int tj) (.int tf) (.int n_h0_start_18) n_h0_end_19 (.int 2) (.int n_h0_sign_21) (.int tx) (.int ty) ca_tb fa_tb hB_tt hp_24 (z_bw hp_23 (by decide) (by decide)) hI_a_tb) (cwV 1 hts gw_s_X1_readPart_s_X10_numberFrom_90 rfl rfl rfl (by decide +kernel) ⟨Nat.le_of_ble_eq_true rfl, Nat.le_of_ble_eq_true rfl⟩) ⟨z_blind, va_recv hKc hPc (ci := 10) (q0 := 0) rfl rfl, z_pre hPc hKc hDc⟩ rfl rfl hl.1 rfl (lv_room (Nat.le_of_ble_eq_true rfl)) dX1_readPart_94 ⟨Nat.le_of_ble_eq_true rfl, Nat.le_of_ble_eq_true rfl⟩) hS (fun q _ h => hFc q h) hFc (fun r_31 u t H_30 locs ht hvm hw_32 hB hz1 hk1 hS => ?_)
        replace hP := z_pure hP hk1
        clear hPc hDc hKc
        refine lv_istore_n (lv' := [(2, .int r_31), (1, .int r_2), (0, .ref h0)]) hx hb dX1_readPart_97 rfl hl (by decide) rfl (fun ls hl => ?_)
        refine lv_iload_n hx hb dX1_readPart_98 rfl (lv_at hl 0 rfl) ?_
        refine lv_sipush (v := 999) hx hb dX1_readPart_99 (by decide) ?_
        refine lv_icmp_le (tgt := 114) hx hb dX1_readPart_102 (by decide) (fun c_33 => ?_) (fun c_33 => ?_)
        · have k_34 : (r_31).toInt ≤ (999 : Int) := z_le c_33
          refine lv_aload_n hx hb dX1_readPart_114 rfl (lv_at hl 2 rfl) ?_
          refine va_get (D := (dC, dI)) (ci := 1) (v := .ref a_pa) (C := RX1) (T := TX1) (N := 6) hx hb hts hiX1 hown hK hP 0 rfl rfl 1 (by decide) w__fieldLink_RX1_28_ShellHeap_FindsReader_pantry_LShellHeap_Pantry_ (fun _ h9 => h9) rfl dX1_readPart_115 ?_
          refine lv_aload_n hx hb dX1_readPart_118 rfl (lv_at hl 2 rfl) ?_
          refine va_get (D := (dC, dI)) (ci := 1) (v := .int fn) (C := RX1) (T := TX1) (N := 6) hx hb hts hiX1 hown hK hP 0 rfl rfl 2 (by decide) w__fieldLink_RX1_9_ShellHeap_FindsReader_note_I_ (fun _ h9 => h9) rfl dX1_readPart_119 ?_
          refine lv_aload_n hx hb dX1_readPart_122 rfl (lv_at hl 2 rfl) ?_
          refine va_get (D := (dC, dI)) (ci := 1) (v := .int fk) (C := RX1) (T := TX1) (N := 6) hx hb hts hiX1 hown hK hP 0 rfl rfl 3 (by decide) w__fieldLink_RX1_15_ShellHeap_FindsReader_kind_I_ (fun _ h9 => h9) rfl dX1_readPart_123 ?_
          refine lv_aload_n hx hb dX1_readPart_126 rfl (lv_at hl 2 rfl) ?_
          refine va_get (D := (dC, dI)) (ci := 1) (v := .int fs) (C := RX1) (T := TX1) (N := 6) hx hb hts hiX1 hown hK hP 0 rfl rfl 4 (by decide) w__fieldLink_RX1_18_ShellHeap_FindsReader_sieve_I_ (fun _ h9 => h9) rfl dX1_readPart_127 ?_
          refine lv_iload_n hx hb dX1_readPart_130 rfl (lv_at hl 1 rfl) ?_
          refine lv_iload_n hx hb dX1_readPart_131 rfl (lv_at hl 0 rfl) ?_
          obtain ⟨hPc, hDc, hFc⟩ := z_sub3 (ws' := [(a_pa, .inr (5, [a_pa_0, a_pa_1, .ref a_fo, a_pa_3, a_pa_4, a_pa_5, a_pa_6, a_pa_7, a_pa_8, .int pk])), (a_fo, .inl (ca_fo, 11520, .inl fa_fo))]) hP hD hS hA [1, 2] (by decide) rfl
          have hKc := hK.sub (tys' := [(ca_fo, .int)]) [1] rfl
          refine va_callv (va_runV (As := [.int fn, .int fk, .int fs, .int r_2, .int r_31]) (rest := []) ⟨hx, hb, hml, hown, hts⟩ (s_X5_add l dC dI H_30.size a_pa fn fk fs r_2 r_31 a_pa_0 a_pa_1 a_fo a_pa_3 a_pa_4 a_pa_5 a_pa_6 a_pa_7 a_pa_8 (.int pk) ca_fo fa_fo hB_fn hB_fk hB_fs (by first | omega | decide)) (cwV 5 hts gw_s_X1_readPart_s_X5_add_94 rfl rfl rfl (by decide +kernel) ⟨Nat.le_of_ble_eq_true rfl, Nat.le_of_ble_eq_true rfl⟩) ⟨z_blind, va_recv hKc hPc (ci := 5) (q0 := 0) rfl rfl, z_pre hPc hKc hDc⟩ rfl rfl hl.1 rfl (lv_room (Nat.le_of_ble_eq_true rfl)) dX1_readPart_132 ⟨Nat.le_of_ble_eq_true rfl, Nat.le_of_ble_eq_true rfl⟩) hS (fun q _ h => hFc q h) hFc (fun u t H_35 locs ht hvm hw_37 hB hz1 hk1 hS => ?_)
          obtain ⟨g_h1_38, hP1, hK1, hD1⟩ := hB
          rw [ht] at hP1
          have hK1 := va_K.moved hvm.symm hK1
          obtain ⟨hP, hD⟩ := z_ap_3 (va_join (wr := [(h0, .inr (1, [.ref a_tp, .ref a_pa, .int fn, .int fk, .int fs, .int z_12])), (a_tp, .inr (10, [.ref a_tb, .int tt, .int n_h0_at_17, .int tj, .int tf, .int n_h0_start_18, .int n_h0_end_19, .int 2, .int n_h0_sign_21, .int tx, .int ty])), (a_tb, .inl (ca_tb, 700, .inl fa_tb))]) hP hD [1, 2] [0, 3, 4] rfl rfl (by decide) (by decide) hk1 hFc hP1 hD1)
          clear hPc hDc hKc
          refine lv_aload_n hx hb dX1_readPart_135 rfl (lv_at hl 2 rfl) ?_
          refine va_get (D := (dC, dI)) (ci := 1) (v := .ref a_tp) (C := RX1) (T := TX1) (N := 6) hx hb hts hiX1 hown hK hP 0 rfl rfl 0 (by decide) w__fieldLink_RX1_24_ShellHeap_FindsReader_tape_LShellHeap_Tape_ (fun _ h9 => h9) rfl dX1_readPart_136 ?_
          obtain ⟨hPc, hDc, hFc⟩ := z_sub3 (ws' := [(a_tp, .inr (10, [.ref a_tb, .int tt, .int n_h0_at_17, .int tj, .int tf, .int n_h0_start_18, .int n_h0_end_19, .int 2, .int n_h0_sign_21, .int tx, .int ty])), (a_tb, .inl (ca_tb, 700, .inl fa_tb))]) hP hD hS hA [1, 2] (by decide) rfl
          have hKc := hK.sub (tys' := [(ca_tb, .int)]) [0] rfl
          refine va_callv (va_runV (As := []) (rest := []) ⟨hx, hb, hml, hown, hts⟩ (s_X10_next2 l dC dI H_35.size a_tp a_tb tt n_h0_at_17 tj tf n_h0_start_18 n_h0_end_19 2 n_h0_sign_21 tx ty ca_tb fa_tb hB_tt hp_22 hB_tf hp_23 hp_24 hI_a_tb (by first | omega | decide)) (cwV 0 hts gw_s_X1_readPart_s_X10_next2_62 rfl rfl rfl (by decide +kernel) ⟨Nat.le_of_ble_eq_true rfl, Nat.le_of_ble_eq_true rfl⟩) ⟨z_blind, va_recv hKc hPc (ci := 10) (q0 := 0) rfl rfl, z_pre hPc hKc hDc⟩ rfl rfl hl.1 rfl (lv_room (Nat.le_of_ble_eq_true rfl)) dX1_readPart_139 ⟨Nat.le_of_ble_eq_true rfl, Nat.le_of_ble_eq_true rfl⟩) hS (fun q _ h => hFc q h) hFc (fun u t H_39 locs ht hvm hw_41 hB hz1 hk1 hS => ?_)
          obtain ⟨n_h0_at_42, n_h0_start_43, n_h0_end_44, n_h0_sort_45, n_h0_sign_46, hp_47, hp_48, hp_49, hp_50, hp_51, hP1, hK1, hD1⟩ := hB
          rw [ht] at hP1
          have hK1 := va_K.moved hvm.symm hK1
          obtain ⟨hP, hD⟩ := z_ap_3 (va_join (wr := [(h0, .inr (1, [.ref a_tp, .ref a_pa, .int fn, .int fk, .int fs, .int z_12])), (a_pa, .inr (5, [a_pa_0, a_pa_1, .ref a_fo, a_pa_3, a_pa_4, a_pa_5, a_pa_6, a_pa_7, a_pa_8, .int pk])), (a_fo, .inl (ca_fo, 11520, .inl g_h1_38))]) hP hD [1, 2] [0, 3, 4] rfl rfl (by decide) (by decide) hk1 hFc hP1 hD1)
          have hp_50 : (n_h0_sort_45.toInt = (1 : Int) → z_tok fa_tb n_h0_start_43.toInt n_h0_end_44.toInt ∧ n_h0_end_44.toInt ≤ tt.toInt) := hp_50
          have hp_51 : n_h0_at_42.toInt ≤ tt.toInt := hp_51
          clear hPc hDc hKc
          refine lv_iconst (v := 1) hx hb dX1_readPart_142 (by decide) ?_
          obtain ⟨hP9, hD9⟩ := z_sub2 (ws' := [(h0, .inr (1, [.ref a_tp, .ref a_pa, .int fn, .int fk, .int fs, .int z_12])), (a_tp, .inr (10, [.ref a_tb, .int tt, .int n_h0_at_42, .int tj, .int tf, .int n_h0_start_43, .int n_h0_end_44, .int n_h0_sort_45, .int n_h0_sign_46, .int tx, .int ty])), (a_tb, .inl (ca_tb, 700, .inl fa_tb)), (a_pa, .inr (5, [a_pa_0, a_pa_1, .ref a_fo, a_pa_3, a_pa_4, a_pa_5, a_pa_6, a_pa_7, a_pa_8, .int pk])), (a_fo, .inl (ca_fo, 11520, .inl g_h1_38))]) hP hD [0, 3, 4, 1, 2] (by decide) rfl
          have hK9 := hK.sub (tys' := []) [] rfl
          refine W.widen (k := 0) (n := 0) (Nat.le_of_ble_eq_true rfl) (Nat.le_of_ble_eq_true rfl) ?_
          exact W.zret (v := 1) hx hb hr (by rfl) (fun t ht hW => ⟨⟨1, (), rfl, (Or.inl (⟨rfl, by first | omega | decide⟩)), ⟨z_12, n_h0_at_42, n_h0_start_43, n_h0_end_44, n_h0_sort_45, n_h0_sign_46, tx, ty, g_h1_38, hp_47, hp_48, hp_49, hp_50, (show n_h0_at_42.toInt ≤ tt.toInt by omega), by rw [ht]; exact hP9, va_K.moved hW.alike hK9, hD9⟩⟩, hS.F ht⟩) hS.2.2 dX1_readPart_143
        · have k_52 : (r_31).toInt > (999 : Int) := z_nle c_33
          refine lv_aload_n hx hb dX1_readPart_105 rfl (lv_at hl 2 rfl) ?_
          refine va_get (D := (dC, dI)) (ci := 1) (v := .ref a_tp) (C := RX1) (T := TX1) (N := 6) hx hb hts hiX1 hown hK hP 0 rfl rfl 0 (by decide) w__fieldLink_RX1_24_ShellHeap_FindsReader_tape_LShellHeap_Tape_ (fun _ h9 => h9) rfl dX1_readPart_106 ?_
          refine lv_iconst (v := 2) hx hb dX1_readPart_109 (by decide) ?_
          obtain ⟨hPc, hDc, hFc⟩ := z_sub3 (ws' := [(a_tp, .inr (10, [.ref a_tb, .int tt, .int n_h0_at_17, .int tj, .int tf, .int n_h0_start_18, .int n_h0_end_19, .int 2, .int n_h0_sign_21, .int tx, .int ty]))]) hP hD hS hA [3] (by decide) rfl
          have hKc := hK.sub (tys' := []) [] rfl
          refine va_calli (va_runV (As := [.int 2]) (rest := []) ⟨hx, hb, hml, hown, hts⟩ (s_X10_fail l dC dI H_30.size a_tp 2 (.ref a_tb) (.int tt) (.int n_h0_at_17) (.int tj) (.int tf) n_h0_start_18 (.int n_h0_end_19) (.int 2) (.int n_h0_sign_21) tx ty hp_23) (cwV 1 hts gw_s_X1_readPart_s_X10_fail_55 rfl rfl rfl (by decide +kernel) ⟨Nat.le_of_ble_eq_true rfl, Nat.le_of_ble_eq_true rfl⟩) ⟨z_blind, va_recv hKc hPc (ci := 10) (q0 := 0) rfl rfl, z_pre hPc hKc hDc⟩ rfl rfl hl.1 rfl (lv_room (Nat.le_of_ble_eq_true rfl)) dX1_readPart_110 ⟨Nat.le_of_ble_eq_true rfl, Nat.le_of_ble_eq_true rfl⟩) hS (fun q _ h => hFc q h) hFc (fun r_54 u t H_53 locs ht hvm hw_55 hB hz1 hk1 hS => ?_)
          obtain ⟨n_h0_faultSort_56, n_h0_faultPlace_57, hP1, hK1, hD1⟩ := hB
          rw [ht] at hP1
          have hK1 := va_K.moved hvm.symm hK1
          obtain ⟨hP, hD⟩ := z_ap_4 (va_join (wr := [(h0, .inr (1, [.ref a_tp, .ref a_pa, .int fn, .int fk, .int fs, .int z_12])), (a_pa, .inr (5, [a_pa_0, a_pa_1, .ref a_fo, a_pa_3, a_pa_4, a_pa_5, a_pa_6, a_pa_7, a_pa_8, .int pk])), (a_fo, .inl (ca_fo, 11520, .inl fa_fo)), (a_tb, .inl (ca_tb, 700, .inl fa_tb))]) hP hD [3] [0, 1, 2, 4] rfl rfl (by decide) (by decide) hk1 hFc hP1 hD1)
          clear hPc hDc hKc
          obtain rfl : r_54 = 0 := hw_55
          obtain ⟨hP9, hD9⟩ := z_sub2 (ws' := [(h0, .inr (1, [.ref a_tp, .ref a_pa, .int fn, .int fk, .int fs, .int z_12])), (a_tp, .inr (10, [.ref a_tb, .int tt, .int n_h0_at_17, .int tj, .int tf, .int n_h0_start_18, .int n_h0_end_19, .int 2, .int n_h0_sign_21, .int n_h0_faultSort_56, .int n_h0_faultPlace_57])), (a_tb, .inl (ca_tb, 700, .inl fa_tb)), (a_pa, .inr (5, [a_pa_0, a_pa_1, .ref a_fo, a_pa_3, a_pa_4, a_pa_5, a_pa_6, a_pa_7, a_pa_8, .int pk])), (a_fo, .inl (ca_fo, 11520, .inl fa_fo))]) hP hD [0, 4, 3, 1, 2] (by decide) rfl
          have hK9 := hK.sub (tys' := []) [] rfl
          refine W.widen (k := 0) (n := 0) (Nat.le_of_ble_eq_true rfl) (Nat.le_of_ble_eq_true rfl) ?_
          exact W.zret (v := 0) hx hb hr (by rfl) (fun t ht hW => ⟨⟨0, (), rfl, (Or.inr (⟨rfl, by first | omega | decide⟩)), ⟨z_12, n_h0_at_17, n_h0_start_18, n_h0_end_19, 2, n_h0_sign_21, n_h0_faultSort_56, n_h0_faultPlace_57, fa_fo, hp_22, hp_23, hp_24, (fun h9 => absurd h9 (by decide)), (show n_h0_at_17.toInt ≤ tt.toInt by omega), by rw [ht]; exact hP9, va_K.moved hW.alike hK9, hD9⟩⟩, hS.F ht⟩) hS.2.2 dX1_readPart_113
      · have k_58 : (n_h0_sort_20).toInt ≠ (2 : Int) := z_ne c_27
        refine lv_aload_n hx hb dX1_readPart_74 rfl (lv_at hl 1 rfl) ?_
        refine va_get (D := (dC, dI)) (ci := 1) (v := .ref a_tp) (C := RX1) (T := TX1) (N := 6) hx hb hts hiX1 hown hK hP 0 rfl rfl 0 (by decide) w__fieldLink_RX1_24_ShellHeap_FindsReader_tape_LShellHeap_Tape_ (fun _ h9 => h9) rfl dX1_readPart_75 ?_
        refine lv_iconst (v := 1) hx hb dX1_readPart_78 (by decide) ?_
        obtain ⟨hPc, hDc, hFc⟩ := z_sub3 (ws' := [(a_tp, .inr (10, [.ref a_tb, .int tt, .int n_h0_at_17, .int tj, .int tf, .int n_h0_start_18, .int n_h0_end_19, .int n_h0_sort_20, .int n_h0_sign_21, .int tx, .int ty]))]) hP hD hS hA [3] (by decide) rfl
        have hKc := hK.sub (tys' := []) [] rfl
        refine va_calli (va_runV (As := [.int 1]) (rest := []) ⟨hx, hb, hml, hown, hts⟩ (s_X10_fail l dC dI H_14.size a_tp 1 (.ref a_tb) (.int tt) (.int n_h0_at_17) (.int tj) (.int tf) n_h0_start_18 (.int n_h0_end_19) (.int n_h0_sort_20) (.int n_h0_sign_21) tx ty hp_23) (cwV 1 hts gw_s_X1_readPart_s_X10_fail_55 rfl rfl rfl (by decide +kernel) ⟨Nat.le_of_ble_eq_true rfl, Nat.le_of_ble_eq_true rfl⟩) ⟨z_blind, va_recv hKc hPc (ci := 10) (q0 := 0) rfl rfl, z_pre hPc hKc hDc⟩ rfl rfl hl.1 rfl (lv_room (Nat.le_of_ble_eq_true rfl)) dX1_readPart_79 ⟨Nat.le_of_ble_eq_true rfl, Nat.le_of_ble_eq_true rfl⟩) hS (fun q _ h => hFc q h) hFc (fun r_60 u t H_59 locs ht hvm hw_61 hB hz1 hk1 hS => ?_)
        obtain ⟨n_h0_faultSort_62, n_h0_faultPlace_63, hP1, hK1, hD1⟩ := hB
        rw [ht] at hP1
        have hK1 := va_K.moved hvm.symm hK1
        obtain ⟨hP, hD⟩ := z_ap_4 (va_join (wr := [(h0, .inr (1, [.ref a_tp, .ref a_pa, .int fn, .int fk, .int fs, .int z_12])), (a_pa, .inr (5, [a_pa_0, a_pa_1, .ref a_fo, a_pa_3, a_pa_4, a_pa_5, a_pa_6, a_pa_7, a_pa_8, .int pk])), (a_fo, .inl (ca_fo, 11520, .inl fa_fo)), (a_tb, .inl (ca_tb, 700, .inl fa_tb))]) hP hD [3] [0, 1, 2, 4] rfl rfl (by decide) (by decide) hk1 hFc hP1 hD1)
        clear hPc hDc hKc
        obtain rfl : r_60 = 0 := hw_61
        obtain ⟨hP9, hD9⟩ := z_sub2 (ws' := [(h0, .inr (1, [.ref a_tp, .ref a_pa, .int fn, .int fk, .int fs, .int z_12])), (a_tp, .inr (10, [.ref a_tb, .int tt, .int n_h0_at_17, .int tj, .int tf, .int n_h0_start_18, .int n_h0_end_19, .int n_h0_sort_20, .int n_h0_sign_21, .int n_h0_faultSort_62, .int n_h0_faultPlace_63])), (a_tb, .inl (ca_tb, 700, .inl fa_tb)), (a_pa, .inr (5, [a_pa_0, a_pa_1, .ref a_fo, a_pa_3, a_pa_4, a_pa_5, a_pa_6, a_pa_7, a_pa_8, .int pk])), (a_fo, .inl (ca_fo, 11520, .inl fa_fo))]) hP hD [0, 4, 3, 1, 2] (by decide) rfl
        have hK9 := hK.sub (tys' := []) [] rfl
        refine W.widen (k := 0) (n := 0) (Nat.le_of_ble_eq_true rfl) (Nat.le_of_ble_eq_true rfl) ?_
        exact W.zret (v := 0) hx hb hr (by rfl) (fun t ht hW => ⟨⟨0, (), rfl, (Or.inr (⟨rfl, by first | omega | decide⟩)), ⟨z_12, n_h0_at_17, n_h0_start_18, n_h0_end_19, n_h0_sort_20, n_h0_sign_21, n_h0_faultSort_62, n_h0_faultPlace_63, fa_fo, hp_22, hp_23, hp_24, hp_25, (show n_h0_at_17.toInt ≤ tt.toInt by omega), by rw [ht]; exact hP9, va_K.moved hW.alike hK9, hD9⟩⟩, hS.F ht⟩) hS.2.2 dX1_readPart_82
    · have k_64 : (z_7).toInt ≠ (0 : Int) := z_ne c_8
      obtain rfl : z_7 = 1 := z_eq' (show (z_7).toInt = (1 : Int) by omega)
      refine lv_aload_n hx hb dX1_readPart_35 rfl (lv_at hl 1 rfl) ?_
      refine va_get (D := (dC, dI)) (ci := 1) (v := .ref a_tp) (C := RX1) (T := TX1) (N := 6) hx hb hts hiX1 hown hK hP 0 rfl rfl 0 (by decide) w__fieldLink_RX1_24_ShellHeap_FindsReader_tape_LShellHeap_Tape_ (fun _ h9 => h9) rfl dX1_readPart_36 ?_
      refine lv_iconst (v := 3) hx hb dX1_readPart_39 (by decide) ?_
      obtain ⟨hPc, hDc, hFc⟩ := z_sub3 (ws' := [(a_tp, .inr (10, [.ref a_tb, .int tt, .int ta, .int tj, .int tf, .int ts, .int te, .int to, .int tg, .int tx, .int ty]))]) hP hD hS hA [1] (by decide) rfl
      have hKc := hK.sub (tys' := []) [] rfl
      refine va_calli (va_runV (As := [.int 3]) (rest := []) ⟨hx, hb, hml, hown, hts⟩ (s_X10_fail l dC dI H_1.size a_tp 3 (.ref a_tb) (.int tt) (.int ta) (.int tj) (.int tf) ts (.int te) (.int to) (.int tg) tx ty hB_ts) (cwV 1 hts gw_s_X1_readPart_s_X10_fail_55 rfl rfl rfl (by decide +kernel) ⟨Nat.le_of_ble_eq_true rfl, Nat.le_of_ble_eq_true rfl⟩) ⟨z_blind, va_recv hKc hPc (ci := 10) (q0 := 0) rfl rfl, z_pre hPc hKc hDc⟩ rfl rfl hl.1 rfl (lv_room (Nat.le_of_ble_eq_true rfl)) dX1_readPart_40 ⟨Nat.le_of_ble_eq_true rfl, Nat.le_of_ble_eq_true rfl⟩) hS (fun q _ h => hFc q h) hFc (fun r_67 u t H_66 locs ht hvm hw_68 hB hz1 hk1 hS => ?_)
      obtain ⟨n_h0_faultSort_69, n_h0_faultPlace_70, hP1, hK1, hD1⟩ := hB
      rw [ht] at hP1
      have hK1 := va_K.moved hvm.symm hK1
      obtain ⟨hP, hD⟩ := z_ap_4 (va_join (wr := [(h0, .inr (1, [.ref a_tp, .ref a_pa, .int fn, .int fk, .int fs, .int fp])), (a_tb, .inl (ca_tb, 700, .inl fa_tb)), (a_pa, .inr (5, [a_pa_0, a_pa_1, .ref a_fo, a_pa_3, a_pa_4, a_pa_5, a_pa_6, a_pa_7, a_pa_8, .int pk])), (a_fo, .inl (ca_fo, 11520, .inl fa_fo))]) hP hD [1] [0, 2, 3, 4] rfl rfl (by decide) (by decide) hk1 hFc hP1 hD1)
      clear hPc hDc hKc
      obtain rfl : r_67 = 0 := hw_68
      obtain ⟨hP9, hD9⟩ := z_sub2 (ws' := [(h0, .inr (1, [.ref a_tp, .ref a_pa, .int fn, .int fk, .int fs, .int fp])), (a_tp, .inr (10, [.ref a_tb, .int tt, .int ta, .int tj, .int tf, .int ts, .int te, .int to, .int tg, .int n_h0_faultSort_69, .int n_h0_faultPlace_70])), (a_tb, .inl (ca_tb, 700, .inl fa_tb)), (a_pa, .inr (5, [a_pa_0, a_pa_1, .ref a_fo, a_pa_3, a_pa_4, a_pa_5, a_pa_6, a_pa_7, a_pa_8, .int pk])), (a_fo, .inl (ca_fo, 11520, .inl fa_fo))]) hP hD [0, 4, 1, 2, 3] (by decide) rfl
      have hK9 := hK.sub (tys' := []) [] rfl
      refine W.widen (k := 0) (n := 0) (Nat.le_of_ble_eq_true rfl) (Nat.le_of_ble_eq_true rfl) ?_
      exact W.zret (v := 0) hx hb hr (by rfl) (fun t ht hW => ⟨⟨0, (), rfl, (Or.inr (⟨rfl, by first | omega | decide⟩)), ⟨fp, ta, ts, te, to, tg, n_h0_faultSort_69, n_h0_faultPlace_70, fa_fo, hB_ta, hB_ts, hB_te, hTok, (show ta.toInt ≤ tt.toInt by omega), by rw [ht]; exact hP9, va_K.moved hW.alike hK9, hD9⟩⟩, hS.F ht⟩) hS.2.2 dX1_readPart_43
  · have k_71 : (r_2).toInt = (-1 : Int) := z_eq c_4
    obtain rfl : r_2 = (-1) := z_eq' (show (r_2).toInt = (-1 : Int) by omega)
    refine lv_aload_n hx hb dX1_readPart_15 rfl (lv_at hl 1 rfl) ?_
    refine va_get (D := (dC, dI)) (ci := 1) (v := .ref a_tp) (C := RX1) (T := TX1) (N := 6) hx hb hts hiX1 hown hK hP 0 rfl rfl 0 (by decide) w__fieldLink_RX1_24_ShellHeap_FindsReader_tape_LShellHeap_Tape_ (fun _ h9 => h9) rfl dX1_readPart_16 ?_
    refine lv_iconst (v := 1) hx hb dX1_readPart_19 (by decide) ?_
    obtain ⟨hPc, hDc, hFc⟩ := z_sub3 (ws' := [(a_tp, .inr (10, [.ref a_tb, .int tt, .int ta, .int tj, .int tf, .int ts, .int te, .int to, .int tg, .int tx, .int ty]))]) hP hD hS hA [1] (by decide) rfl
    have hKc := hK.sub (tys' := []) [] rfl
    refine va_calli (va_runV (As := [.int 1]) (rest := []) ⟨hx, hb, hml, hown, hts⟩ (s_X10_fail l dC dI H_1.size a_tp 1 (.ref a_tb) (.int tt) (.int ta) (.int tj) (.int tf) ts (.int te) (.int to) (.int tg) tx ty hB_ts) (cwV 1 hts gw_s_X1_readPart_s_X10_fail_55 rfl rfl rfl (by decide +kernel) ⟨Nat.le_of_ble_eq_true rfl, Nat.le_of_ble_eq_true rfl⟩) ⟨z_blind, va_recv hKc hPc (ci := 10) (q0 := 0) rfl rfl, z_pre hPc hKc hDc⟩ rfl rfl hl.1 rfl (lv_room (Nat.le_of_ble_eq_true rfl)) dX1_readPart_20 ⟨Nat.le_of_ble_eq_true rfl, Nat.le_of_ble_eq_true rfl⟩) hS (fun q _ h => hFc q h) hFc (fun r_74 u t H_73 locs ht hvm hw_75 hB hz1 hk1 hS => ?_)
    obtain ⟨n_h0_faultSort_76, n_h0_faultPlace_77, hP1, hK1, hD1⟩ := hB
    rw [ht] at hP1
    have hK1 := va_K.moved hvm.symm hK1
    obtain ⟨hP, hD⟩ := z_ap_4 (va_join (wr := [(h0, .inr (1, [.ref a_tp, .ref a_pa, .int fn, .int fk, .int fs, .int fp])), (a_tb, .inl (ca_tb, 700, .inl fa_tb)), (a_pa, .inr (5, [a_pa_0, a_pa_1, .ref a_fo, a_pa_3, a_pa_4, a_pa_5, a_pa_6, a_pa_7, a_pa_8, .int pk])), (a_fo, .inl (ca_fo, 11520, .inl fa_fo))]) hP hD [1] [0, 2, 3, 4] rfl rfl (by decide) (by decide) hk1 hFc hP1 hD1)
    clear hPc hDc hKc
    obtain rfl : r_74 = 0 := hw_75
    obtain ⟨hP9, hD9⟩ := z_sub2 (ws' := [(h0, .inr (1, [.ref a_tp, .ref a_pa, .int fn, .int fk, .int fs, .int fp])), (a_tp, .inr (10, [.ref a_tb, .int tt, .int ta, .int tj, .int tf, .int ts, .int te, .int to, .int tg, .int n_h0_faultSort_76, .int n_h0_faultPlace_77])), (a_tb, .inl (ca_tb, 700, .inl fa_tb)), (a_pa, .inr (5, [a_pa_0, a_pa_1, .ref a_fo, a_pa_3, a_pa_4, a_pa_5, a_pa_6, a_pa_7, a_pa_8, .int pk])), (a_fo, .inl (ca_fo, 11520, .inl fa_fo))]) hP hD [0, 4, 1, 2, 3] (by decide) rfl
    have hK9 := hK.sub (tys' := []) [] rfl
    refine W.widen (k := 0) (n := 0) (Nat.le_of_ble_eq_true rfl) (Nat.le_of_ble_eq_true rfl) ?_
    exact W.zret (v := 0) hx hb hr (by rfl) (fun t ht hW => ⟨⟨0, (), rfl, (Or.inr (⟨rfl, by first | omega | decide⟩)), ⟨fp, ta, ts, te, to, tg, n_h0_faultSort_76, n_h0_faultPlace_77, fa_fo, hB_ta, hB_ts, hB_te, hTok, (show ta.toInt ≤ tt.toInt by omega), by rw [ht]; exact hP9, va_K.moved hW.alike hK9, hD9⟩⟩, hS.F ht⟩) hS.2.2 dX1_readPart_23
