def u_s_X1_readFind : List Cond := .code yX1_readFind cX1_readFind 2 (some .boolean) :: ([.methodLink RX1 65 yX1_readKind, .instanceMethod yX1_readKind, .selects RX1 yX1_readKind yX1_readKind, .initialized RX1, .methodLink RX1 68 yX1_readSieve, .instanceMethod yX1_readSieve, .selects RX1 yX1_readSieve yX1_readSieve, .methodLink RX1 51 yX1_passSign, .instanceMethod yX1_passSign, .selects RX1 yX1_passSign yX1_passSign, .fieldLink RX1 21 "ShellHeap$FindsReader" "toldParts" "I", .fieldLink RX1 24 "ShellHeap$FindsReader" "tape" "LShellHeap$Tape;", .methodLink RX1 55 yX10_fail, .instanceMethod yX10_fail, .selects RX10 yX10_fail yX10_fail, .initialized RX10, .methodLink RX1 71 yX1_readPart, .instanceMethod yX1_readPart, .selects RX1 yX1_readPart yX1_readPart, .fieldLink RX1 59 "ShellHeap$Tape" "sign" "I", .methodLink RX1 62 yX10_next, .instanceMethod yX10_next, .selects RX10 yX10_next yX10_next] ++ (wsX10 ++ (wsX100 ++ (u_s_X1_readKind ++ (u_s_X1_readSieve ++ (u_s_X1_passSign ++ (u_s_X10_fail ++ (u_s_X1_readPart ++ (u_s_X10_next2 ++ [])))))))))
theorem gd_s_X1_readFind : z_gd u_s_X1_readFind := z_gdc (by decide +kernel) (z_gda gdX1 (z_gda gdX10 (z_gda gd_s_X1_readKind (z_gda gd_s_X1_readSieve (z_gda gd_s_X1_passSign (z_gda gd_s_X10_fail (z_gda gd_s_X1_readPart (z_gda gd_s_X10_next2 (z_gd0)))))))))
set_option maxRecDepth 20000 in
theorem gw_s_X1_readFind_s_X1_readKind_65 : GoodIn u_s_X1_readFind (wsV RX1 65 RX1 yX1_readKind u_s_X1_readKind) := z_gV (z_gr _ [1, 2, 3, 4] rfl (by decide +kernel)) (fun w h => ⟨z_mc (z_mr (z_mr (z_mr (z_ml h)))), gd_s_X1_readKind w h⟩)
set_option maxRecDepth 20000 in
theorem gw_s_X1_readFind_s_X1_readSieve_68 : GoodIn u_s_X1_readFind (wsV RX1 68 RX1 yX1_readSieve u_s_X1_readSieve) := z_gV (z_gr _ [5, 6, 7, 4] rfl (by decide +kernel)) (fun w h => ⟨z_mc (z_mr (z_mr (z_mr (z_mr (z_ml h))))), gd_s_X1_readSieve w h⟩)
set_option maxRecDepth 20000 in
theorem gw_s_X1_readFind_s_X1_passSign_51 : GoodIn u_s_X1_readFind (wsV RX1 51 RX1 yX1_passSign u_s_X1_passSign) := z_gV (z_gr _ [8, 9, 10, 4] rfl (by decide +kernel)) (fun w h => ⟨z_mc (z_mr (z_mr (z_mr (z_mr (z_mr (z_ml h)))))), gd_s_X1_passSign w h⟩)
set_option maxRecDepth 20000 in
theorem gw_s_X1_readFind_s_X10_fail_55 : GoodIn u_s_X1_readFind (wsV RX1 55 RX10 yX10_fail u_s_X10_fail) := z_gV (z_gr _ [13, 14, 15, 16] rfl (by decide +kernel)) (fun w h => ⟨z_mc (z_mr (z_mr (z_mr (z_mr (z_mr (z_mr (z_ml h))))))), gd_s_X10_fail w h⟩)
set_option maxRecDepth 20000 in
theorem gw_s_X1_readFind_s_X1_readPart_71 : GoodIn u_s_X1_readFind (wsV RX1 71 RX1 yX1_readPart u_s_X1_readPart) := z_gV (z_gr _ [17, 18, 19, 4] rfl (by decide +kernel)) (fun w h => ⟨z_mc (z_mr (z_mr (z_mr (z_mr (z_mr (z_mr (z_mr (z_ml h)))))))), gd_s_X1_readPart w h⟩)
set_option maxRecDepth 20000 in
theorem gw_s_X1_readFind_s_X10_next2_62 : GoodIn u_s_X1_readFind (wsV RX1 62 RX10 yX10_next u_s_X10_next2) := z_gV (z_gr _ [21, 22, 23, 16] rfl (by decide +kernel)) (fun w h => ⟨z_mc (z_mr (z_mr (z_mr (z_mr (z_mr (z_mr (z_mr (z_mr (z_ml h))))))))), gd_s_X10_next2 w h⟩)
set_option maxHeartbeats 4000000 in
set_option maxRecDepth 100000 in
theorem s_X1_readFind (l : Launch) (dC : Nat → ClassId) (dI : Nat → Nat → Nat) (sz : Nat) (sd : Nat → Nat) (sv : Nat → Nat) (sf : Value) (h0 : Nat) (a_tp : Nat) (a_pa : Nat) (fn : Int32) (fk : Int32) (fs : Int32) (fp : Int32) (a_tb : Nat) (tt : Int32) (ta : Int32) (tj : Int32) (tf : Int32) (ts : Int32) (te : Int32) (to : Int32) (tg : Int32) (tx : Int32) (ty : Int32) (ca_tb : ClassId) (fa_tb : Nat → Int32) (a_pa_0 : Value) (a_pa_1 : Value) (a_fo : Nat) (a_pa_3 : Value) (a_pa_4 : Value) (a_pa_5 : Value) (a_pa_6 : Value) (a_pa_7 : Value) (a_pa_8 : Value) (pk : Int32) (ca_fo : ClassId) (fa_fo : Nat → Int32) (hB_tt : ((0 : Int) ≤ (tt).toInt ∧ (tt).toInt ≤ (700 : Int))) (hB_ta : ((0 : Int) ≤ (ta).toInt ∧ (ta).toInt ≤ (700 : Int))) (hB_tf : ((0 : Int) ≤ (tf).toInt ∧ (tf).toInt ≤ (700 : Int))) (hB_ts : ((0 : Int) ≤ (ts).toInt ∧ (ts).toInt ≤ (700 : Int))) (hB_te : ((0 : Int) ≤ (te).toInt ∧ (te).toInt ≤ (700 : Int))) (hB_fn : ((0 : Int) ≤ (fn).toInt ∧ (fn).toInt ≤ (79 : Int))) (hB_pk : ((0 : Int) ≤ (pk).toInt ∧ (pk).toInt ≤ (6 : Int))) (hI_a_tb : ∀ j : Nat, ((0 : Int) ≤ (fa_tb j).toInt ∧ (fa_tb j).toInt ≤ (255 : Int))) (hTok : (to.toInt = (1 : Int) → z_tok fa_tb ts.toInt te.toInt ∧ te.toInt ≤ tt.toInt)) (hle : ta.toInt ≤ tt.toInt) : Met l yX1_readFind u_s_X1_readFind ({ frames := 6, cells := 0, slots := 0, locals := 133 }) (va_Pc [.ref h0] (z_CS (dC, dI) vwCl [(h0, .inr (1, [.ref a_tp, .ref a_pa, .int fn, .int fk, .int fs, .int fp])), (a_tp, .inr (10, [.ref a_tb, .int tt, .int ta, .int tj, .int tf, .int ts, .int te, .int to, .int tg, .int tx, .int ty])), (a_tb, .inl (ca_tb, 700, .inl fa_tb)), (a_pa, .inr (5, [a_pa_0, a_pa_1, .ref a_fo, a_pa_3, a_pa_4, a_pa_5, a_pa_6, a_pa_7, a_pa_8, .int pk])), (a_fo, .inl (ca_fo, 11520, .inl fa_fo))] [(ca_tb, .int), (ca_fo, .int)] sz sd sv sf [(h0, .inr (1, [.ref a_tp, .ref a_pa, .int fn, .int fk, .int fs, .int fp])), (a_tp, .inr (10, [.ref a_tb, .int tt, .int ta, .int tj, .int tf, .int ts, .int te, .int to, .int tg, .int tx, .int ty])), (a_tb, .inl (ca_tb, 700, .inl fa_tb)), (a_pa, .inr (5, [a_pa_0, a_pa_1, .ref a_fo, a_pa_3, a_pa_4, a_pa_5, a_pa_6, a_pa_7, a_pa_8, .int pk])), (a_fo, .inl (ca_fo, 11520, .inl fa_fo))])) (va_Qi (fun (r : Int32) (_ : Unit) => (r = 1 ∧ True) ∨ (r = 0 ∧ True)) (fun (_ : Unit) (t : State) => ∃ (n_h0_kind : Int32), ∃ (n_h0_sieve : Int32), ∃ (n_h0_toldParts : Int32), ∃ (n_a_tp_at : Int32), ∃ (n_a_tp_start : Int32), ∃ (n_a_tp_end : Int32), ∃ (n_a_tp_sort : Int32), ∃ (n_a_tp_sign : Int32), ∃ (n_a_tp_faultSort : Int32), ∃ (n_a_tp_faultPlace : Int32), ∃ (g_a_fo : Nat → Int32), ((0 : Int) ≤ (n_a_tp_at).toInt ∧ (n_a_tp_at).toInt ≤ (700 : Int)) ∧ ((0 : Int) ≤ (n_a_tp_start).toInt ∧ (n_a_tp_start).toInt ≤ (700 : Int)) ∧ ((0 : Int) ≤ (n_a_tp_end).toInt ∧ (n_a_tp_end).toInt ≤ (700 : Int)) ∧ ((n_a_tp_sort.toInt = (1 : Int) → z_tok fa_tb n_a_tp_start.toInt n_a_tp_end.toInt ∧ n_a_tp_end.toInt ≤ tt.toInt)) ∧ (n_a_tp_at.toInt ≤ tt.toInt) ∧ va_P (dC, dI) vwCl [(h0, .inr (1, [.ref a_tp, .ref a_pa, .int fn, .int n_h0_kind, .int n_h0_sieve, .int n_h0_toldParts])), (a_tp, .inr (10, [.ref a_tb, .int tt, .int n_a_tp_at, .int tj, .int tf, .int n_a_tp_start, .int n_a_tp_end, .int n_a_tp_sort, .int n_a_tp_sign, .int n_a_tp_faultSort, .int n_a_tp_faultPlace])), (a_tb, .inl (ca_tb, 700, .inl fa_tb)), (a_pa, .inr (5, [a_pa_0, a_pa_1, .ref a_fo, a_pa_3, a_pa_4, a_pa_5, a_pa_6, a_pa_7, a_pa_8, .int pk])), (a_fo, .inl (ca_fo, 11520, .inl g_a_fo))] t.heap ∧ va_K (dC, dI) vwCl [] t ∧ va_D (va_A [(h0, .inr (1, [.ref a_tp, .ref a_pa, .int fn, .int fk, .int fs, .int fp])), (a_tp, .inr (10, [.ref a_tb, .int tt, .int ta, .int tj, .int tf, .int ts, .int te, .int to, .int tg, .int tx, .int ty])), (a_tb, .inl (ca_tb, 700, .inl fa_tb)), (a_pa, .inr (5, [a_pa_0, a_pa_1, .ref a_fo, a_pa_3, a_pa_4, a_pa_5, a_pa_6, a_pa_7, a_pa_8, .int pk])), (a_fo, .inl (ca_fo, 11520, .inl fa_fo))] sz) [(h0, .inr (1, [.ref a_tp, .ref a_pa, .int fn, .int n_h0_kind, .int n_h0_sieve, .int n_h0_toldParts])), (a_tp, .inr (10, [.ref a_tb, .int tt, .int n_a_tp_at, .int tj, .int tf, .int n_a_tp_start, .int n_a_tp_end, .int n_a_tp_sort, .int n_a_tp_sign, .int n_a_tp_faultSort, .int n_a_tp_faultPlace])), (a_tb, .inl (ca_tb, 700, .inl fa_tb)), (a_pa, .inr (5, [a_pa_0, a_pa_1, .ref a_fo, a_pa_3, a_pa_4, a_pa_5, a_pa_6, a_pa_7, a_pa_8, .int pk])), (a_fo, .inl (ca_fo, 11520, .inl g_a_fo))]) (va_A [(h0, .inr (1, [.ref a_tp, .ref a_pa, .int fn, .int fk, .int fs, .int fp])), (a_tp, .inr (10, [.ref a_tb, .int tt, .int ta, .int tj, .int tf, .int ts, .int te, .int to, .int tg, .int tx, .int ty])), (a_tb, .inl (ca_tb, 700, .inl fa_tb)), (a_pa, .inr (5, [a_pa_0, a_pa_1, .ref a_fo, a_pa_3, a_pa_4, a_pa_5, a_pa_6, a_pa_7, a_pa_8, .int pk])), (a_fo, .inl (ca_fo, 11520, .inl fa_fo))] sz)) 0 0 (va_A [(h0, .inr (1, [.ref a_tp, .ref a_pa, .int fn, .int fk, .int fs, .int fp])), (a_tp, .inr (10, [.ref a_tb, .int tt, .int ta, .int tj, .int tf, .int ts, .int te, .int to, .int tg, .int tx, .int ty])), (a_tb, .inl (ca_tb, 700, .inl fa_tb)), (a_pa, .inr (5, [a_pa_0, a_pa_1, .ref a_fo, a_pa_3, a_pa_4, a_pa_5, a_pa_6, a_pa_7, a_pa_8, .int pk])), (a_fo, .inl (ca_fo, 11520, .inl fa_fo))] sz) := by
  refine Met.ofW (cc := cX1_readFind) (maxL := 2) (ret := (some .boolean)) (by decide) rfl ?_
  intro p e s m args below meth c s₁ B hml hv
  obtain ⟨rfl, ⟨hsz, hP, hK, hD0⟩, hST⟩ := hv
  have hx := B.exec
  have hb := B.bytes
  have hr := B.returns
  have hts := atoms_spec (ws := u_s_X1_readFind) B.pre
  have hown : s.vm.findClass RX1 = some m.cls := findClass_of_methodNamed B.named
  have hlocks := B.notSynchronized
  subst hsz
  have hD := hD0.self (sz := s.heap.size)
  generalize hAe : va_A [(h0, .inr (1, [.ref a_tp, .ref a_pa, .int fn, .int fk, .int fs, .int fp])), (a_tp, .inr (10, [.ref a_tb, .int tt, .int ta, .int tj, .int tf, .int ts, .int te, .int to, .int tg, .int tx, .int ty])), (a_tb, .inl (ca_tb, 700, .inl fa_tb)), (a_pa, .inr (5, [a_pa_0, a_pa_1, .ref a_fo, a_pa_3, a_pa_4, a_pa_5, a_pa_6, a_pa_7, a_pa_8, .int pk])), (a_fo, .inl (ca_fo, 11520, .inl fa_fo))] s.heap.size = A at hD hST ⊢
  have hA : ∀ q : Nat, s.heap.size ≤ q → A q := fun q h => by rw [← hAe]; exact Or.inr h
  have hS : va_S A s.heap s.heap [] := va_S.rf
  have hP : va_P (dC, dI) vwCl [(h0, .inr (1, [.ref a_tp, .ref a_pa, .int fn, .int fk, .int fs, .int fp])), (a_tp, .inr (10, [.ref a_tb, .int tt, .int ta, .int tj, .int tf, .int ts, .int te, .int to, .int tg, .int tx, .int ty])), (a_tb, .inl (ca_tb, 700, .inl fa_tb)), (a_pa, .inr (5, [a_pa_0, a_pa_1, .ref a_fo, a_pa_3, a_pa_4, a_pa_5, a_pa_6, a_pa_7, a_pa_8, .int pk])), (a_fo, .inl (ca_fo, 11520, .inl fa_fo))] s.heap := hP
  have w__fieldLink_RX1_21_ShellHeap_FindsReader_toldParts_I_ := hts (.fieldLink RX1 21 "ShellHeap$FindsReader" "toldParts" "I") (z_mc (z_ml z_m10))
  have hiX1 := show ∀ w ∈ u_ws RX1 TX1 6, w ∈ u_s_X1_readFind from fun w h => z_mc (z_mr (z_ml h))
  have w__fieldLink_RX1_24_ShellHeap_FindsReader_tape_LShellHeap_Tape_ := hts (.fieldLink RX1 24 "ShellHeap$FindsReader" "tape" "LShellHeap$Tape;") (z_mc (z_ml z_m11))
  have w__fieldLink_RX1_59_ShellHeap_Tape_sign_I_ := hts (.fieldLink RX1 59 "ShellHeap$Tape" "sign" "I") (z_mc (z_ml z_m19))
  have hiX10 := show ∀ w ∈ u_ws RX10 TX10 11, w ∈ u_s_X1_readFind from fun w h => z_mc (z_mr (z_mr (z_ml h)))
  have hl := lv_entry ([.ref h0]) (n := 2) (Nat.le_of_ble_eq_true rfl)
  rw [lg_entry_eq]
  generalize (lg_sl ([.ref h0]) ++ List.replicate (2 - (lg_sl ([.ref h0])).length) Slot.unset).toArray = ls at hl ⊢
  have hl : lv_has ls 2 [(0, .ref h0)] := hl
  refine z_nameQ (fun QQ hQQ => ?_)
  refine lv_aload_n hx hb dX1_readFind_0 rfl (lv_at hl 0 rfl) ?_
  obtain ⟨hPc, hDc, hFc⟩ := z_sub3 (ws' := [(h0, .inr (1, [.ref a_tp, .ref a_pa, .int fn, .int fk, .int fs, .int fp])), (a_tp, .inr (10, [.ref a_tb, .int tt, .int ta, .int tj, .int tf, .int ts, .int te, .int to, .int tg, .int tx, .int ty])), (a_tb, .inl (ca_tb, 700, .inl fa_tb)), (a_pa, .inr (5, [a_pa_0, a_pa_1, .ref a_fo, a_pa_3, a_pa_4, a_pa_5, a_pa_6, a_pa_7, a_pa_8, .int pk]))]) hP hD hS hA [0, 1, 2, 3] (by decide) rfl
  have hKc := hK.sub (tys' := [(ca_tb, .int)]) [0] rfl
  refine va_calli (va_runV (As := []) (rest := []) ⟨hx, hb, hml, hown, hts⟩ (s_X1_readKind l dC dI s.heap.size sd sv sf h0 a_tp a_pa fn fk fs fp a_tb tt ta tj tf ts te to tg tx ty ca_tb fa_tb a_pa_0 a_pa_1 a_fo a_pa_3 a_pa_4 a_pa_5 a_pa_6 a_pa_7 a_pa_8 pk hB_tt hB_ta hB_tf hB_ts hB_te hB_pk hI_a_tb hTok (by first | omega | decide)) (cwV 0 hts gw_s_X1_readFind_s_X1_readKind_65 rfl rfl rfl (by decide +kernel) ⟨Nat.le_of_ble_eq_true rfl, Nat.le_of_ble_eq_true rfl⟩) ⟨z_blindS, va_recv hKc hPc (ci := 1) (q0 := 0) rfl rfl, z_preS hPc hKc hDc ((hST.kept hS.2.1).narrow hFc)⟩ rfl rfl hl.1 rfl (lv_room (Nat.le_of_ble_eq_true rfl)) dX1_readFind_1 ⟨Nat.le_of_ble_eq_true rfl, Nat.le_of_ble_eq_true rfl⟩) hS (fun q _ h => hFc q h) hFc (fun r_2 u t H_1 locs ht hvm hw_3 hB hz1 hk1 hS => ?_)
  obtain ⟨rfl, hw_3⟩ := hw_3
  obtain ⟨n_h0_kind_4, n_a_tp_at_5, n_a_tp_start_6, n_a_tp_end_7, n_a_tp_sort_8, n_a_tp_sign_9, n_a_tp_faultSort_10, n_a_tp_faultPlace_11, hp_12, hp_13, hp_14, hp_15, hp_16, hp_17, hP1, hK1, hD1⟩ := hB
  rw [ht] at hP1
  have hK1 := va_K.moved hvm.symm hK1
  obtain ⟨hP, hD⟩ := z_ap_1 (va_join (wr := [(a_fo, .inl (ca_fo, 11520, .inl fa_fo))]) hP hD [0, 1, 2, 3] [4] rfl rfl (by decide) (by decide) hk1 hFc hP1 hD1)
  have hp_15 : (n_a_tp_sort_8.toInt = (1 : Int) → z_tok fa_tb n_a_tp_start_6.toInt n_a_tp_end_7.toInt ∧ n_a_tp_end_7.toInt ≤ tt.toInt) := hp_15
  have hp_16 : n_a_tp_at_5.toInt ≤ tt.toInt := hp_16
  clear hPc hDc hKc
  rcases hw_3 with ⟨rfl, hw_3⟩ | ⟨rfl, hw_3⟩
  · have hw_3 : True := hw_3
    have hp_17 : ((0 : Int) ≤ n_h0_kind_4.toInt ∧ n_h0_kind_4.toInt ≤ (5 : Int)) := hp_17 rfl
    refine lv_if_eq (tgt := 23) hx hb dX1_readFind_4 (by decide) (fun c_18 => absurd c_18 (by decide)) (fun _ => ?_)
    refine lv_aload_n hx hb dX1_readFind_7 rfl (lv_at hl 0 rfl) ?_
    obtain ⟨hPc, hDc, hFc⟩ := z_sub3 (ws' := [(h0, .inr (1, [.ref a_tp, .ref a_pa, .int fn, .int n_h0_kind_4, .int fs, .int fp])), (a_tp, .inr (10, [.ref a_tb, .int tt, .int n_a_tp_at_5, .int tj, .int tf, .int n_a_tp_start_6, .int n_a_tp_end_7, .int n_a_tp_sort_8, .int n_a_tp_sign_9, .int n_a_tp_faultSort_10, .int n_a_tp_faultPlace_11])), (a_tb, .inl (ca_tb, 700, .inl fa_tb))]) hP hD hS hA [1, 2, 3] (by decide) rfl
    have hKc := hK.sub (tys' := [(ca_tb, .int)]) [0] rfl
    refine va_calli (va_runV (As := []) (rest := []) ⟨hx, hb, hml, hown, hts⟩ (s_X1_readSieve l dC dI H_1.size sd sv sf h0 a_tp a_pa fn n_h0_kind_4 fs fp a_tb tt n_a_tp_at_5 tj tf n_a_tp_start_6 n_a_tp_end_7 n_a_tp_sort_8 n_a_tp_sign_9 n_a_tp_faultSort_10 n_a_tp_faultPlace_11 ca_tb fa_tb hB_tt hp_12 hB_tf hp_13 hp_14 hI_a_tb hp_15 (by first | omega | decide)) (cwV 0 hts gw_s_X1_readFind_s_X1_readSieve_68 rfl rfl rfl (by decide +kernel) ⟨Nat.le_of_ble_eq_true rfl, Nat.le_of_ble_eq_true rfl⟩) ⟨z_blindS, va_recv hKc hPc (ci := 1) (q0 := 0) rfl rfl, z_preS hPc hKc hDc ((hST.kept hS.2.1).narrow hFc)⟩ rfl rfl hl.1 rfl (lv_room (Nat.le_of_ble_eq_true rfl)) dX1_readFind_8 ⟨Nat.le_of_ble_eq_true rfl, Nat.le_of_ble_eq_true rfl⟩) hS (fun q _ h => hFc q h) hFc (fun r_20 u t H_19 locs ht hvm hw_21 hB hz1 hk1 hS => ?_)
    obtain ⟨rfl, hw_21⟩ := hw_21
    obtain ⟨n_h0_sieve_22, n_a_tp_at_23, n_a_tp_start_24, n_a_tp_end_25, n_a_tp_sort_26, n_a_tp_sign_27, n_a_tp_faultSort_28, n_a_tp_faultPlace_29, hp_30, hp_31, hp_32, hp_33, hp_34, hp_35, hP1, hK1, hD1⟩ := hB
    rw [ht] at hP1
    have hK1 := va_K.moved hvm.symm hK1
    obtain ⟨hP, hD⟩ := z_ap_2 (va_join (wr := [(a_fo, .inl (ca_fo, 11520, .inl fa_fo)), (a_pa, .inr (5, [a_pa_0, a_pa_1, .ref a_fo, a_pa_3, a_pa_4, a_pa_5, a_pa_6, a_pa_7, a_pa_8, .int pk]))]) hP hD [1, 2, 3] [0, 4] rfl rfl (by decide) (by decide) hk1 hFc hP1 hD1)
    have hp_33 : (n_a_tp_sort_26.toInt = (1 : Int) → z_tok fa_tb n_a_tp_start_24.toInt n_a_tp_end_25.toInt ∧ n_a_tp_end_25.toInt ≤ tt.toInt) := hp_33
    have hp_34 : n_a_tp_at_23.toInt ≤ tt.toInt := hp_34
    clear hPc hDc hKc
    rcases hw_21 with ⟨rfl, hw_21⟩ | ⟨rfl, hw_21⟩
    · have hw_21 : True := hw_21
      have hp_35 : ((0 : Int) ≤ n_h0_sieve_22.toInt ∧ n_h0_sieve_22.toInt ≤ (3 : Int)) := hp_35 rfl
      refine lv_if_eq (tgt := 23) hx hb dX1_readFind_11 (by decide) (fun c_36 => absurd c_36 (by decide)) (fun _ => ?_)
      refine lv_aload_n hx hb dX1_readFind_14 rfl (lv_at hl 0 rfl) ?_
      refine lv_bipush (v := 58) hx hb dX1_readFind_15 (by decide) ?_
      obtain ⟨hPc, hDc, hFc⟩ := z_sub3 (ws' := [(h0, .inr (1, [.ref a_tp, .ref a_pa, .int fn, .int n_h0_kind_4, .int n_h0_sieve_22, .int fp])), (a_tp, .inr (10, [.ref a_tb, .int tt, .int n_a_tp_at_23, .int tj, .int tf, .int n_a_tp_start_24, .int n_a_tp_end_25, .int n_a_tp_sort_26, .int n_a_tp_sign_27, .int n_a_tp_faultSort_28, .int n_a_tp_faultPlace_29])), (a_tb, .inl (ca_tb, 700, .inl fa_tb))]) hP hD hS hA [2, 3, 4] (by decide) rfl
      have hKc := hK.sub (tys' := [(ca_tb, .int)]) [0] rfl
      refine va_calli (va_runV (As := [.int 58]) (rest := []) ⟨hx, hb, hml, hown, hts⟩ (s_X1_passSign l dC dI H_19.size sd sv sf h0 58 a_tp a_pa fn n_h0_kind_4 n_h0_sieve_22 fp a_tb tt n_a_tp_at_23 tj tf n_a_tp_start_24 n_a_tp_end_25 n_a_tp_sort_26 n_a_tp_sign_27 n_a_tp_faultSort_28 n_a_tp_faultPlace_29 ca_tb fa_tb hB_tt hp_30 hB_tf hp_31 hp_32 hI_a_tb hp_33 (by first | omega | decide)) (cwV 1 hts gw_s_X1_readFind_s_X1_passSign_51 rfl rfl rfl (by decide +kernel) ⟨Nat.le_of_ble_eq_true rfl, Nat.le_of_ble_eq_true rfl⟩) ⟨z_blindS, va_recv hKc hPc (ci := 1) (q0 := 0) rfl rfl, z_preS hPc hKc hDc ((hST.kept hS.2.1).narrow hFc)⟩ rfl rfl hl.1 rfl (lv_room (Nat.le_of_ble_eq_true rfl)) dX1_readFind_17 ⟨Nat.le_of_ble_eq_true rfl, Nat.le_of_ble_eq_true rfl⟩) hS (fun q _ h => hFc q h) hFc (fun r_38 u t H_37 locs ht hvm hw_39 hB hz1 hk1 hS => ?_)
      obtain ⟨n_a_tp_at_40, n_a_tp_start_41, n_a_tp_end_42, n_a_tp_sort_43, n_a_tp_sign_44, n_a_tp_faultSort_45, n_a_tp_faultPlace_46, hp_47, hp_48, hp_49, hp_50, hp_51, hP1, hK1, hD1⟩ := hB
      rw [ht] at hP1
      have hK1 := va_K.moved hvm.symm hK1
      obtain ⟨hP, hD⟩ := z_ap_2 (va_join (wr := [(a_fo, .inl (ca_fo, 11520, .inl fa_fo)), (a_pa, .inr (5, [a_pa_0, a_pa_1, .ref a_fo, a_pa_3, a_pa_4, a_pa_5, a_pa_6, a_pa_7, a_pa_8, .int pk]))]) hP hD [2, 3, 4] [0, 1] rfl rfl (by decide) (by decide) hk1 hFc hP1 hD1)
      have hp_50 : (n_a_tp_sort_43.toInt = (1 : Int) → z_tok fa_tb n_a_tp_start_41.toInt n_a_tp_end_42.toInt ∧ n_a_tp_end_42.toInt ≤ tt.toInt) := hp_50
      have hp_51 : n_a_tp_at_40.toInt ≤ tt.toInt := hp_51
      clear hPc hDc hKc
      rcases hw_39 with ⟨rfl, hw_39⟩ | ⟨rfl, hw_39⟩
      · have hw_39 : True := hw_39
        refine lv_if_ne (tgt := 25) hx hb dX1_readFind_20 (by decide) (fun _ => ?_) (fun c_52 => absurd c_52 (by decide))
        refine lv_aload_n hx hb dX1_readFind_25 rfl (lv_at hl 0 rfl) ?_
        refine lv_iconst (v := 0) hx hb dX1_readFind_26 (by decide) ?_
        refine va_put (D := (dC, dI)) (ci := 1) (v := .int 0) (ty := .int) (C := RX1) (T := TX1) (N := 6) hx hb hts hiX1 tyX1 tyX1_ok nmX1 hown hK hP hD hS 2 rfl rfl 5 (by decide) w__fieldLink_RX1_21_ShellHeap_FindsReader_toldParts_I_ (fun _ h9 => h9) rfl (by decide +kernel) rfl rfl (Nat.le_of_ble_eq_true rfl) dX1_readFind_27 (fun H_53 locs hP hD hS => ?_)
        obtain ⟨hP, hD⟩ := z_s_2_5 hP hD
        refine lv_iconst (v := 0) hx hb dX1_readFind_30 (by decide) ?_
        refine lv_istore_n (lv' := [(1, .int 0), (0, .ref h0)]) hx hb dX1_readFind_31 rfl hl (by decide) rfl (fun ls hl => ?_)
        have loop_54 : ∀ (n_55 : Nat) (i_57 : Int32) (v_58 : Int32) (v_59 : Int32) (v_60 : Int32) (v_61 : Int32) (v_62 : Int32) (v_63 : Int32) (v_64 : Int32) (v_65 : Int32) (f_66 : Nat → Int32) (H : Heap) (locs : List Loc) (ls : Array Slot), (701 - (i_57).toInt).toNat < n_55 → (((0 : Int) ≤ (i_57).toInt ∧ (i_57).toInt ≤ (700 : Int))) → (((0 : Int) ≤ (v_59).toInt ∧ (v_59).toInt ≤ (700 : Int))) → (((0 : Int) ≤ (v_60).toInt ∧ (v_60).toInt ≤ (700 : Int))) → (((0 : Int) ≤ (v_61).toInt ∧ (v_61).toInt ≤ (700 : Int))) → (((v_62).toInt = (1 : Int) → z_tok fa_tb (v_60).toInt (v_61).toInt ∧ (v_61).toInt ≤ (tt).toInt)) → ((v_59).toInt ≤ (tt).toInt) → va_P (dC, dI) vwCl [(a_fo, .inl (ca_fo, 11520, .inl f_66)), (a_pa, .inr (5, [a_pa_0, a_pa_1, .ref a_fo, a_pa_3, a_pa_4, a_pa_5, a_pa_6, a_pa_7, a_pa_8, .int pk])), (h0, .inr (1, [.ref a_tp, .ref a_pa, .int fn, .int n_h0_kind_4, .int n_h0_sieve_22, .int v_58])), (a_tp, .inr (10, [.ref a_tb, .int tt, .int v_59, .int tj, .int tf, .int v_60, .int v_61, .int v_62, .int v_63, .int v_64, .int v_65])), (a_tb, .inl (ca_tb, 700, .inl fa_tb))] H → va_D A [(a_fo, .inl (ca_fo, 11520, .inl f_66)), (a_pa, .inr (5, [a_pa_0, a_pa_1, .ref a_fo, a_pa_3, a_pa_4, a_pa_5, a_pa_6, a_pa_7, a_pa_8, .int pk])), (h0, .inr (1, [.ref a_tp, .ref a_pa, .int fn, .int n_h0_kind_4, .int n_h0_sieve_22, .int v_58])), (a_tp, .inr (10, [.ref a_tb, .int tt, .int v_59, .int tj, .int tf, .int v_60, .int v_61, .int v_62, .int v_63, .int v_64, .int v_65])), (a_tb, .inl (ca_tb, 700, .inl fa_tb))] → va_S A s.heap H locs → lv_has ls 2 [(1, .int i_57), (0, .ref h0)] → W p l e ({ frames := 6, cells := 0, slots := 0, locals := 133 } : Room) s m ([.ref h0] : List Value).toArray below meth c H locs 0 0 QQ (F0 m 32 ls []) := by
          intro n_55
          induction n_55 with
          | zero => intro i_57 v_58 v_59 v_60 v_61 v_62 v_63 v_64 v_65 f_66 H locs ls hm; exact absurd hm (Nat.not_lt_zero _)
          | succ n_55 ih_56 =>
            intro i_57 v_58 v_59 v_60 v_61 v_62 v_63 v_64 v_65 f_66 H locs ls hm hF_67 hF_68 hF_69 hF_70 hF_71 hF_72 hP hD hS hl
            refine lv_iload_n hx hb dX1_readFind_32 rfl (lv_at hl 0 rfl) ?_
            refine lv_sipush (v := 700) hx hb dX1_readFind_33 (by decide) ?_
            refine lv_icmp_ge (tgt := 75) hx hb dX1_readFind_36 (by decide) (fun c_73 => ?_) (fun c_73 => ?_)
            · have k_74 : (700 : Int) ≤ (i_57).toInt := z_le c_73
              obtain rfl : i_57 = 700 := z_eq' (show (i_57).toInt = (700 : Int) by omega)
              refine lv_aload_n hx hb dX1_readFind_75 rfl (lv_at hl 1 rfl) ?_
              refine va_get (D := (dC, dI)) (ci := 1) (v := .ref a_tp) (C := RX1) (T := TX1) (N := 6) hx hb hts hiX1 hown hK hP 2 rfl rfl 0 (by decide) w__fieldLink_RX1_24_ShellHeap_FindsReader_tape_LShellHeap_Tape_ (fun _ h9 => h9) rfl dX1_readFind_76 ?_
              refine lv_iconst (v := 1) hx hb dX1_readFind_79 (by decide) ?_
              obtain ⟨hPc, hDc, hFc⟩ := z_sub3 (ws' := [(a_tp, .inr (10, [.ref a_tb, .int tt, .int v_59, .int tj, .int tf, .int v_60, .int v_61, .int v_62, .int v_63, .int v_64, .int v_65]))]) hP hD hS hA [3] (by decide) rfl
              have hKc := hK.sub (tys' := []) [] rfl
              refine va_calli (va_runV (As := [.int 1]) (rest := []) ⟨hx, hb, hml, hown, hts⟩ (s_X10_fail l dC dI H.size a_tp 1 (.ref a_tb) (.int tt) (.int v_59) (.int tj) (.int tf) v_60 (.int v_61) (.int v_62) (.int v_63) v_64 v_65 hF_69) (cwV 1 hts gw_s_X1_readFind_s_X10_fail_55 rfl rfl rfl (by decide +kernel) ⟨Nat.le_of_ble_eq_true rfl, Nat.le_of_ble_eq_true rfl⟩) ⟨z_blind, va_recv hKc hPc (ci := 10) (q0 := 0) rfl rfl, z_pre hPc hKc hDc⟩ rfl rfl hl.1 rfl (lv_room (Nat.le_of_ble_eq_true rfl)) dX1_readFind_80 ⟨Nat.le_of_ble_eq_true rfl, Nat.le_of_ble_eq_true rfl⟩) hS (fun q _ h => hFc q h) hFc (fun r_77 u t H_76 locs ht hvm hw_78 hB hz1 hk1 hS => ?_)
              obtain ⟨n_h0_faultSort_79, n_h0_faultPlace_80, hP1, hK1, hD1⟩ := hB
              rw [ht] at hP1
              have hK1 := va_K.moved hvm.symm hK1
              obtain ⟨hP, hD⟩ := z_ap_4 (va_join (wr := [(a_fo, .inl (ca_fo, 11520, .inl f_66)), (a_pa, .inr (5, [a_pa_0, a_pa_1, .ref a_fo, a_pa_3, a_pa_4, a_pa_5, a_pa_6, a_pa_7, a_pa_8, .int pk])), (h0, .inr (1, [.ref a_tp, .ref a_pa, .int fn, .int n_h0_kind_4, .int n_h0_sieve_22, .int v_58])), (a_tb, .inl (ca_tb, 700, .inl fa_tb))]) hP hD [3] [0, 1, 2, 4] rfl rfl (by decide) (by decide) hk1 hFc hP1 hD1)
              clear hPc hDc hKc
              obtain rfl : r_77 = 0 := hw_78
              refine z_backQ hQQ ?_
              obtain ⟨hP9, hD9⟩ := z_sub2 (ws' := [(h0, .inr (1, [.ref a_tp, .ref a_pa, .int fn, .int n_h0_kind_4, .int n_h0_sieve_22, .int v_58])), (a_tp, .inr (10, [.ref a_tb, .int tt, .int v_59, .int tj, .int tf, .int v_60, .int v_61, .int v_62, .int v_63, .int n_h0_faultSort_79, .int n_h0_faultPlace_80])), (a_tb, .inl (ca_tb, 700, .inl fa_tb)), (a_pa, .inr (5, [a_pa_0, a_pa_1, .ref a_fo, a_pa_3, a_pa_4, a_pa_5, a_pa_6, a_pa_7, a_pa_8, .int pk])), (a_fo, .inl (ca_fo, 11520, .inl f_66))]) hP hD [2, 4, 3, 1, 0] (by decide) rfl
              have hK9 := hK.sub (tys' := []) [] rfl
              refine W.widen (k := 0) (n := 0) (Nat.le_of_ble_eq_true rfl) (Nat.le_of_ble_eq_true rfl) ?_
              exact W.zret (v := 0) hx hb hr (by rfl) (fun t ht hW => ⟨⟨0, (), rfl, (Or.inr (⟨rfl, by first | omega | decide⟩)), ⟨n_h0_kind_4, n_h0_sieve_22, v_58, v_59, v_60, v_61, v_62, v_63, n_h0_faultSort_79, n_h0_faultPlace_80, f_66, hF_68, hF_69, hF_70, hF_71, (show v_59.toInt ≤ tt.toInt by omega), by rw [ht]; exact hP9, va_K.moved hW.alike hK9, hD9⟩⟩, hS.F ht⟩) hS.2.2 dX1_readFind_83
            · have k_81 : (700 : Int) > (i_57).toInt := z_nle c_73
              refine lv_aload_n hx hb dX1_readFind_39 rfl (lv_at hl 1 rfl) ?_
              obtain ⟨hPc, hDc, hFc⟩ := z_sub3 (ws' := [(h0, .inr (1, [.ref a_tp, .ref a_pa, .int fn, .int n_h0_kind_4, .int n_h0_sieve_22, .int v_58])), (a_tp, .inr (10, [.ref a_tb, .int tt, .int v_59, .int tj, .int tf, .int v_60, .int v_61, .int v_62, .int v_63, .int v_64, .int v_65])), (a_tb, .inl (ca_tb, 700, .inl fa_tb)), (a_pa, .inr (5, [a_pa_0, a_pa_1, .ref a_fo, a_pa_3, a_pa_4, a_pa_5, a_pa_6, a_pa_7, a_pa_8, .int pk])), (a_fo, .inl (ca_fo, 11520, .inl f_66))]) hP hD hS hA [2, 3, 4, 1, 0] (by decide) rfl
              have hKc := hK
              refine va_calli (va_runV (As := []) (rest := []) ⟨hx, hb, hml, hown, hts⟩ (s_X1_readPart l dC dI H.size sd sv sf h0 a_tp a_pa fn n_h0_kind_4 n_h0_sieve_22 v_58 a_tb tt v_59 tj tf v_60 v_61 v_62 v_63 v_64 v_65 ca_tb fa_tb a_pa_0 a_pa_1 a_fo a_pa_3 a_pa_4 a_pa_5 a_pa_6 a_pa_7 a_pa_8 pk ca_fo f_66 hB_tt hF_68 hB_tf hF_69 hF_70 hB_fn (by first | omega | decide) (by first | omega | decide) hI_a_tb hF_71 (by first | omega | decide)) (cwV 0 hts gw_s_X1_readFind_s_X1_readPart_71 rfl rfl rfl (by decide +kernel) ⟨Nat.le_of_ble_eq_true rfl, Nat.le_of_ble_eq_true rfl⟩) ⟨z_blindS, va_recv hKc hPc (ci := 1) (q0 := 0) rfl rfl, z_preS hPc hKc hDc ((hST.kept hS.2.1).narrow hFc)⟩ rfl rfl hl.1 rfl (lv_room (Nat.le_of_ble_eq_true rfl)) dX1_readFind_40 ⟨Nat.le_of_ble_eq_true rfl, Nat.le_of_ble_eq_true rfl⟩) hS (fun q _ h => hFc q h) hFc (fun r_83 u t H_82 locs ht hvm hw_84 hB hz1 hk1 hS => ?_)
              obtain ⟨n_h0_toldParts_85, n_a_tp_at_86, n_a_tp_start_87, n_a_tp_end_88, n_a_tp_sort_89, n_a_tp_sign_90, n_a_tp_faultSort_91, n_a_tp_faultPlace_92, g_a_fo_93, hp_94, hp_95, hp_96, hp_97, hp_98, hP1, hK1, hD1⟩ := hB
              rw [ht] at hP1
              have hK1 := va_K.moved hvm.symm hK1
              obtain ⟨hP, hD⟩ := z_ap_0 (va_join (wr := []) hP hD [2, 3, 4, 1, 0] [] rfl rfl (by decide) (by decide) hk1 hFc hP1 hD1)
              have hp_97 : (n_a_tp_sort_89.toInt = (1 : Int) → z_tok fa_tb n_a_tp_start_87.toInt n_a_tp_end_88.toInt ∧ n_a_tp_end_88.toInt ≤ tt.toInt) := hp_97
              have hp_98 : n_a_tp_at_86.toInt ≤ tt.toInt := hp_98
              clear hPc hDc hKc
              rcases hw_84 with ⟨rfl, hw_84⟩ | ⟨rfl, hw_84⟩
              · have hw_84 : True := hw_84
                refine lv_if_ne (tgt := 48) hx hb dX1_readFind_43 (by decide) (fun _ => ?_) (fun c_99 => absurd c_99 (by decide))
                refine lv_aload_n hx hb dX1_readFind_48 rfl (lv_at hl 1 rfl) ?_
                refine va_get (D := (dC, dI)) (ci := 1) (v := .ref a_tp) (C := RX1) (T := TX1) (N := 6) hx hb hts hiX1 hown hK hP 0 rfl rfl 0 (by decide) w__fieldLink_RX1_24_ShellHeap_FindsReader_tape_LShellHeap_Tape_ (fun _ h9 => h9) rfl dX1_readFind_49 ?_
                refine va_get (D := (dC, dI)) (ci := 10) (v := .int n_a_tp_sign_90) (C := RX10) (T := TX10) (N := 11) hx hb hts hiX10 hown hK hP 1 rfl rfl 8 (by decide) w__fieldLink_RX1_59_ShellHeap_Tape_sign_I_ (fun _ h9 => h9) rfl dX1_readFind_52 ?_
                refine lv_bipush (v := 44) hx hb dX1_readFind_55 (by decide) ?_
                refine lv_icmp_eq (tgt := 62) hx hb dX1_readFind_57 (by decide) (fun c_100 => ?_) (fun c_100 => ?_)
                · have k_101 : (n_a_tp_sign_90).toInt = (44 : Int) := z_eq c_100
                  obtain rfl : n_a_tp_sign_90 = 44 := z_eq' (show (n_a_tp_sign_90).toInt = (44 : Int) by omega)
                  refine lv_aload_n hx hb dX1_readFind_62 rfl (lv_at hl 1 rfl) ?_
                  refine va_get (D := (dC, dI)) (ci := 1) (v := .ref a_tp) (C := RX1) (T := TX1) (N := 6) hx hb hts hiX1 hown hK hP 0 rfl rfl 0 (by decide) w__fieldLink_RX1_24_ShellHeap_FindsReader_tape_LShellHeap_Tape_ (fun _ h9 => h9) rfl dX1_readFind_63 ?_
                  obtain ⟨hPc, hDc, hFc⟩ := z_sub3 (ws' := [(a_tp, .inr (10, [.ref a_tb, .int tt, .int n_a_tp_at_86, .int tj, .int tf, .int n_a_tp_start_87, .int n_a_tp_end_88, .int n_a_tp_sort_89, .int 44, .int n_a_tp_faultSort_91, .int n_a_tp_faultPlace_92])), (a_tb, .inl (ca_tb, 700, .inl fa_tb))]) hP hD hS hA [1, 2] (by decide) rfl
                  have hKc := hK.sub (tys' := [(ca_tb, .int)]) [0] rfl
                  refine va_callv (va_runV (As := []) (rest := []) ⟨hx, hb, hml, hown, hts⟩ (s_X10_next2 l dC dI H_82.size a_tp a_tb tt n_a_tp_at_86 tj tf n_a_tp_start_87 n_a_tp_end_88 n_a_tp_sort_89 44 n_a_tp_faultSort_91 n_a_tp_faultPlace_92 ca_tb fa_tb hB_tt hp_94 hB_tf hp_95 hp_96 hI_a_tb (by first | omega | decide)) (cwV 0 hts gw_s_X1_readFind_s_X10_next2_62 rfl rfl rfl (by decide +kernel) ⟨Nat.le_of_ble_eq_true rfl, Nat.le_of_ble_eq_true rfl⟩) ⟨z_blind, va_recv hKc hPc (ci := 10) (q0 := 0) rfl rfl, z_pre hPc hKc hDc⟩ rfl rfl hl.1 rfl (lv_room (Nat.le_of_ble_eq_true rfl)) dX1_readFind_66 ⟨Nat.le_of_ble_eq_true rfl, Nat.le_of_ble_eq_true rfl⟩) hS (fun q _ h => hFc q h) hFc (fun u t H_103 locs ht hvm hw_105 hB hz1 hk1 hS => ?_)
                  obtain ⟨n_h0_at_106, n_h0_start_107, n_h0_end_108, n_h0_sort_109, n_h0_sign_110, hp_111, hp_112, hp_113, hp_114, hp_115, hP1, hK1, hD1⟩ := hB
                  rw [ht] at hP1
                  have hK1 := va_K.moved hvm.symm hK1
                  obtain ⟨hP, hD⟩ := z_ap_3 (va_join (wr := [(h0, .inr (1, [.ref a_tp, .ref a_pa, .int fn, .int n_h0_kind_4, .int n_h0_sieve_22, .int n_h0_toldParts_85])), (a_pa, .inr (5, [a_pa_0, a_pa_1, .ref a_fo, a_pa_3, a_pa_4, a_pa_5, a_pa_6, a_pa_7, a_pa_8, .int pk])), (a_fo, .inl (ca_fo, 11520, .inl g_a_fo_93))]) hP hD [1, 2] [0, 3, 4] rfl rfl (by decide) (by decide) hk1 hFc hP1 hD1)
                  have hp_114 : (n_h0_sort_109.toInt = (1 : Int) → z_tok fa_tb n_h0_start_107.toInt n_h0_end_108.toInt ∧ n_h0_end_108.toInt ≤ tt.toInt) := hp_114
                  have hp_115 : n_h0_at_106.toInt ≤ tt.toInt := hp_115
                  clear hPc hDc hKc
                  obtain ⟨z_116, ez_116⟩ : ∃ y : Int32, y = i_57 + 1 := ⟨_, rfl⟩
                  have kz_116 : (z_116).toInt = (i_57).toInt + (1 : Int) := by rw [ez_116]; exact z_add (b := 1) rfl rfl (z_al hF_67.1 (by decide)) (z_ah hF_67.2 (by decide))
                  refine lv_iinc (v := z_116) (lv' := [(1, .int z_116), (0, .ref h0)]) hx hb dX1_readFind_69 hl (k := 0) rfl (by rw [ez_116]; rfl) (by decide) rfl (fun ls hl => ?_)
                  refine lv_goto (tgt := 32) hx hb dX1_readFind_72 (by decide) ?_
                  exact ih_56 z_116 n_h0_toldParts_85 n_h0_at_106 n_h0_start_107 n_h0_end_108 n_h0_sort_109 n_h0_sign_110 n_a_tp_faultSort_91 n_a_tp_faultPlace_92 g_a_fo_93 _ _ _ (show (701 - (z_116).toInt).toNat < n_55 by omega) (show ((0 : Int) ≤ (z_116).toInt ∧ (z_116).toInt ≤ (700 : Int)) by omega) (show ((0 : Int) ≤ (n_h0_at_106).toInt ∧ (n_h0_at_106).toInt ≤ (700 : Int)) by omega) (show ((0 : Int) ≤ (n_h0_start_107).toInt ∧ (n_h0_start_107).toInt ≤ (700 : Int)) by omega) (show ((0 : Int) ≤ (n_h0_end_108).toInt ∧ (n_h0_end_108).toInt ≤ (700 : Int)) by omega) (show ((n_h0_sort_109).toInt = (1 : Int) → z_tok fa_tb (n_h0_start_107).toInt (n_h0_end_108).toInt ∧ (n_h0_end_108).toInt ≤ (tt).toInt) from hp_114) (show (n_h0_at_106).toInt ≤ (tt).toInt by omega) (hP.sub (ws' := [(a_fo, .inl (ca_fo, 11520, .inl g_a_fo_93)), (a_pa, .inr (5, [a_pa_0, a_pa_1, .ref a_fo, a_pa_3, a_pa_4, a_pa_5, a_pa_6, a_pa_7, a_pa_8, .int pk])), (h0, .inr (1, [.ref a_tp, .ref a_pa, .int fn, .int n_h0_kind_4, .int n_h0_sieve_22, .int n_h0_toldParts_85])), (a_tp, .inr (10, [.ref a_tb, .int tt, .int n_h0_at_106, .int tj, .int tf, .int n_h0_start_107, .int n_h0_end_108, .int n_h0_sort_109, .int n_h0_sign_110, .int n_a_tp_faultSort_91, .int n_a_tp_faultPlace_92])), (a_tb, .inl (ca_tb, 700, .inl fa_tb))]) [2, 1, 0, 3, 4] rfl) (hD.sub (ws' := [(a_fo, .inl (ca_fo, 11520, .inl g_a_fo_93)), (a_pa, .inr (5, [a_pa_0, a_pa_1, .ref a_fo, a_pa_3, a_pa_4, a_pa_5, a_pa_6, a_pa_7, a_pa_8, .int pk])), (h0, .inr (1, [.ref a_tp, .ref a_pa, .int fn, .int n_h0_kind_4, .int n_h0_sieve_22, .int n_h0_toldParts_85])), (a_tp, .inr (10, [.ref a_tb, .int tt, .int n_h0_at_106, .int tj, .int tf, .int n_h0_start_107, .int n_h0_end_108, .int n_h0_sort_109, .int n_h0_sign_110, .int n_a_tp_faultSort_91, .int n_a_tp_faultPlace_92])), (a_tb, .inl (ca_tb, 700, .inl fa_tb))]) [2, 1, 0, 3, 4] (by decide) rfl) hS (lv_sub hl [0, 1] rfl)
                · have k_117 : (n_a_tp_sign_90).toInt ≠ (44 : Int) := z_ne c_100
                  refine lv_iconst (v := 1) hx hb dX1_readFind_60 (by decide) ?_
                  refine z_backQ hQQ ?_
                  have hP9 := hP
                  have hD9 := hD
                  have hK9 := hK.sub (tys' := []) [] rfl
                  refine W.widen (k := 0) (n := 0) (Nat.le_of_ble_eq_true rfl) (Nat.le_of_ble_eq_true rfl) ?_
                  exact W.zret (v := 1) hx hb hr (by rfl) (fun t ht hW => ⟨⟨1, (), rfl, (Or.inl (⟨rfl, by first | omega | decide⟩)), ⟨n_h0_kind_4, n_h0_sieve_22, n_h0_toldParts_85, n_a_tp_at_86, n_a_tp_start_87, n_a_tp_end_88, n_a_tp_sort_89, n_a_tp_sign_90, n_a_tp_faultSort_91, n_a_tp_faultPlace_92, g_a_fo_93, hp_94, hp_95, hp_96, hp_97, (show n_a_tp_at_86.toInt ≤ tt.toInt by omega), by rw [ht]; exact hP9, va_K.moved hW.alike hK9, hD9⟩⟩, hS.F ht⟩) hS.2.2 dX1_readFind_61
              · have hw_84 : True := hw_84
                refine lv_if_ne (tgt := 48) hx hb dX1_readFind_43 (by decide) (fun c_118 => absurd c_118 (by decide)) (fun _ => ?_)
                refine lv_iconst (v := 0) hx hb dX1_readFind_46 (by decide) ?_
                refine z_backQ hQQ ?_
                have hP9 := hP
                have hD9 := hD
                have hK9 := hK.sub (tys' := []) [] rfl
                refine W.widen (k := 0) (n := 0) (Nat.le_of_ble_eq_true rfl) (Nat.le_of_ble_eq_true rfl) ?_
                exact W.zret (v := 0) hx hb hr (by rfl) (fun t ht hW => ⟨⟨0, (), rfl, (Or.inr (⟨rfl, by first | omega | decide⟩)), ⟨n_h0_kind_4, n_h0_sieve_22, n_h0_toldParts_85, n_a_tp_at_86, n_a_tp_start_87, n_a_tp_end_88, n_a_tp_sort_89, n_a_tp_sign_90, n_a_tp_faultSort_91, n_a_tp_faultPlace_92, g_a_fo_93, hp_94, hp_95, hp_96, hp_97, (show n_a_tp_at_86.toInt ≤ tt.toInt by omega), by rw [ht]; exact hP9, va_K.moved hW.alike hK9, hD9⟩⟩, hS.F ht⟩) hS.2.2 dX1_readFind_47
        exact loop_54 _ 0 0 n_a_tp_at_40 n_a_tp_start_41 n_a_tp_end_42 n_a_tp_sort_43 n_a_tp_sign_44 n_a_tp_faultSort_45 n_a_tp_faultPlace_46 fa_fo _ _ _ (Nat.lt_succ_self _) (show ((0 : Int) ≤ (0 : Int) ∧ (0 : Int) ≤ (700 : Int)) by omega) (show ((0 : Int) ≤ (n_a_tp_at_40).toInt ∧ (n_a_tp_at_40).toInt ≤ (700 : Int)) by omega) (show ((0 : Int) ≤ (n_a_tp_start_41).toInt ∧ (n_a_tp_start_41).toInt ≤ (700 : Int)) by omega) (show ((0 : Int) ≤ (n_a_tp_end_42).toInt ∧ (n_a_tp_end_42).toInt ≤ (700 : Int)) by omega) (show ((n_a_tp_sort_43).toInt = (1 : Int) → z_tok fa_tb (n_a_tp_start_41).toInt (n_a_tp_end_42).toInt ∧ (n_a_tp_end_42).toInt ≤ (tt).toInt) from hp_50) (show (n_a_tp_at_40).toInt ≤ (tt).toInt by omega) hP hD hS hl
      · have hw_39 : True := hw_39
        refine lv_if_ne (tgt := 25) hx hb dX1_readFind_20 (by decide) (fun c_119 => absurd c_119 (by decide)) (fun _ => ?_)
        refine lv_iconst (v := 0) hx hb dX1_readFind_23 (by decide) ?_
        refine z_backQ hQQ ?_
        obtain ⟨hP9, hD9⟩ := z_sub2 (ws' := [(h0, .inr (1, [.ref a_tp, .ref a_pa, .int fn, .int n_h0_kind_4, .int n_h0_sieve_22, .int fp])), (a_tp, .inr (10, [.ref a_tb, .int tt, .int n_a_tp_at_40, .int tj, .int tf, .int n_a_tp_start_41, .int n_a_tp_end_42, .int n_a_tp_sort_43, .int n_a_tp_sign_44, .int n_a_tp_faultSort_45, .int n_a_tp_faultPlace_46])), (a_tb, .inl (ca_tb, 700, .inl fa_tb)), (a_pa, .inr (5, [a_pa_0, a_pa_1, .ref a_fo, a_pa_3, a_pa_4, a_pa_5, a_pa_6, a_pa_7, a_pa_8, .int pk])), (a_fo, .inl (ca_fo, 11520, .inl fa_fo))]) hP hD [2, 3, 4, 1, 0] (by decide) rfl
        have hK9 := hK.sub (tys' := []) [] rfl
        refine W.widen (k := 0) (n := 0) (Nat.le_of_ble_eq_true rfl) (Nat.le_of_ble_eq_true rfl) ?_
        exact W.zret (v := 0) hx hb hr (by rfl) (fun t ht hW => ⟨⟨0, (), rfl, (Or.inr (⟨rfl, by first | omega | decide⟩)), ⟨n_h0_kind_4, n_h0_sieve_22, fp, n_a_tp_at_40, n_a_tp_start_41, n_a_tp_end_42, n_a_tp_sort_43, n_a_tp_sign_44, n_a_tp_faultSort_45, n_a_tp_faultPlace_46, fa_fo, hp_47, hp_48, hp_49, hp_50, (show n_a_tp_at_40.toInt ≤ tt.toInt by omega), by rw [ht]; exact hP9, va_K.moved hW.alike hK9, hD9⟩⟩, hS.F ht⟩) hS.2.2 dX1_readFind_24
    · have hw_21 : True := hw_21
      refine lv_if_eq (tgt := 23) hx hb dX1_readFind_11 (by decide) (fun _ => ?_) (fun c_120 => absurd (by decide) c_120)
      refine lv_iconst (v := 0) hx hb dX1_readFind_23 (by decide) ?_
      refine z_backQ hQQ ?_
      obtain ⟨hP9, hD9⟩ := z_sub2 (ws' := [(h0, .inr (1, [.ref a_tp, .ref a_pa, .int fn, .int n_h0_kind_4, .int n_h0_sieve_22, .int fp])), (a_tp, .inr (10, [.ref a_tb, .int tt, .int n_a_tp_at_23, .int tj, .int tf, .int n_a_tp_start_24, .int n_a_tp_end_25, .int n_a_tp_sort_26, .int n_a_tp_sign_27, .int n_a_tp_faultSort_28, .int n_a_tp_faultPlace_29])), (a_tb, .inl (ca_tb, 700, .inl fa_tb)), (a_pa, .inr (5, [a_pa_0, a_pa_1, .ref a_fo, a_pa_3, a_pa_4, a_pa_5, a_pa_6, a_pa_7, a_pa_8, .int pk])), (a_fo, .inl (ca_fo, 11520, .inl fa_fo))]) hP hD [2, 3, 4, 1, 0] (by decide) rfl
      have hK9 := hK.sub (tys' := []) [] rfl
      refine W.widen (k := 0) (n := 0) (Nat.le_of_ble_eq_true rfl) (Nat.le_of_ble_eq_true rfl) ?_
      exact W.zret (v := 0) hx hb hr (by rfl) (fun t ht hW => ⟨⟨0, (), rfl, (Or.inr (⟨rfl, by first | omega | decide⟩)), ⟨n_h0_kind_4, n_h0_sieve_22, fp, n_a_tp_at_23, n_a_tp_start_24, n_a_tp_end_25, n_a_tp_sort_26, n_a_tp_sign_27, n_a_tp_faultSort_28, n_a_tp_faultPlace_29, fa_fo, hp_30, hp_31, hp_32, hp_33, (show n_a_tp_at_23.toInt ≤ tt.toInt by omega), by rw [ht]; exact hP9, va_K.moved hW.alike hK9, hD9⟩⟩, hS.F ht⟩) hS.2.2 dX1_readFind_24
  · have hw_3 : True := hw_3
    refine lv_if_eq (tgt := 23) hx hb dX1_readFind_4 (by decide) (fun _ => ?_) (fun c_121 => absurd (by decide) c_121)
    refine lv_iconst (v := 0) hx hb dX1_readFind_23 (by decide) ?_
    refine z_backQ hQQ ?_
    obtain ⟨hP9, hD9⟩ := z_sub2 (ws' := [(h0, .inr (1, [.ref a_tp, .ref a_pa, .int fn, .int n_h0_kind_4, .int fs, .int fp])), (a_tp, .inr (10, [.ref a_tb, .int tt, .int n_a_tp_at_5, .int tj, .int tf, .int n_a_tp_start_6, .int n_a_tp_end_7, .int n_a_tp_sort_8, .int n_a_tp_sign_9, .int n_a_tp_faultSort_10, .int n_a_tp_faultPlace_11])), (a_tb, .inl (ca_tb, 700, .inl fa_tb)), (a_pa, .inr (5, [a_pa_0, a_pa_1, .ref a_fo, a_pa_3, a_pa_4, a_pa_5, a_pa_6, a_pa_7, a_pa_8, .int pk])), (a_fo, .inl (ca_fo, 11520, .inl fa_fo))]) hP hD [1, 2, 3, 4, 0] (by decide) rfl
    have hK9 := hK.sub (tys' := []) [] rfl
    refine W.widen (k := 0) (n := 0) (Nat.le_of_ble_eq_true rfl) (Nat.le_of_ble_eq_true rfl) ?_
    exact W.zret (v := 0) hx hb hr (by rfl) (fun t ht hW => ⟨⟨0, (), rfl, (Or.inr (⟨rfl, by first | omega | decide⟩)), ⟨n_h0_kind_4, fs, fp, n_a_tp_at_5, n_a_tp_start_6, n_a_tp_end_7, n_a_tp_sort_8, n_a_tp_sign_9, n_a_tp_faultSort_10, n_a_tp_faultPlace_11, fa_fo, hp_12, hp_13, hp_14, hp_15, (show n_a_tp_at_5.toInt ≤ tt.toInt by omega), by rw [ht]; exact hP9, va_K.moved hW.alike hK9, hD9⟩⟩, hS.F ht⟩) hS.2.2 dX1_readFind_24
def u_s_X1_read : List Cond := .code yX1_read cX1_read 4 (some .boolean) :: ([.fieldLink RX1 9 "ShellHeap$FindsReader" "note" "I", .fieldLink RX1 28 "ShellHeap$FindsReader" "pantry" "LShellHeap$Pantry;", .methodLink RX1 32 yX5_clear, .instanceMethod yX5_clear, .selects RX5 yX5_clear yX5_clear, .initialized RX5, .fieldLink RX1 24 "ShellHeap$FindsReader" "tape" "LShellHeap$Tape;", .methodLink RX1 38 yX10_open, .instanceMethod yX10_open, .selects RX10 yX10_open yX10_open, .initialized RX10, .methodLink RX1 55 yX10_fail, .instanceMethod yX10_fail, .selects RX10 yX10_fail yX10_fail, .methodLink RX1 44 yX1_readFind, .instanceMethod yX1_readFind, .selects RX1 yX1_readFind yX1_readFind, .initialized RX1, .fieldLink RX1 48 "ShellHeap$Tape" "sort" "I", .methodLink RX1 51 yX1_passSign, .instanceMethod yX1_passSign, .selects RX1 yX1_passSign yX1_passSign] ++ (wsX10 ++ (wsX100 ++ (u_s_X5_clear ++ (u_s_X10_open_f ++ (u_s_X10_fail ++ (u_s_X1_readFind ++ (u_s_X1_passSign ++ []))))))))
theorem gd_s_X1_read : z_gd u_s_X1_read := z_gdc (by decide +kernel) (z_gda gdX1 (z_gda gdX10 (z_gda gd_s_X5_clear (z_gda gd_s_X10_open_f (z_gda gd_s_X10_fail (z_gda gd_s_X1_readFind (z_gda gd_s_X1_passSign (z_gd0))))))))
set_option maxRecDepth 20000 in
theorem gw_s_X1_read_s_X5_clear_32 : GoodIn u_s_X1_read (wsV RX1 32 RX5 yX5_clear u_s_X5_clear) := z_gV (z_gr _ [3, 4, 5, 6] rfl (by decide +kernel)) (fun w h => ⟨z_mc (z_mr (z_mr (z_mr (z_ml h)))), gd_s_X5_clear w h⟩)
set_option maxRecDepth 20000 in
theorem gw_s_X1_read_s_X10_open_f_38 : GoodIn u_s_X1_read (wsV RX1 38 RX10 yX10_open u_s_X10_open_f) := z_gV (z_gr _ [8, 9, 10, 11] rfl (by decide +kernel)) (fun w h => ⟨z_mc (z_mr (z_mr (z_mr (z_mr (z_ml h))))), gd_s_X10_open_f w h⟩)
set_option maxRecDepth 20000 in
theorem gw_s_X1_read_s_X10_fail_55 : GoodIn u_s_X1_read (wsV RX1 55 RX10 yX10_fail u_s_X10_fail) := z_gV (z_gr _ [12, 13, 14, 11] rfl (by decide +kernel)) (fun w h => ⟨z_mc (z_mr (z_mr (z_mr (z_mr (z_mr (z_ml h)))))), gd_s_X10_fail w h⟩)
set_option maxRecDepth 20000 in
theorem gw_s_X1_read_s_X1_readFind_44 : GoodIn u_s_X1_read (wsV RX1 44 RX1 yX1_readFind u_s_X1_readFind) := z_gV (z_gr _ [15, 16, 17, 18] rfl (by decide +kernel)) (fun w h => ⟨z_mc (z_mr (z_mr (z_mr (z_mr (z_mr (z_mr (z_ml h))))))), gd_s_X1_readFind w h⟩)
set_option maxRecDepth 20000 in
theorem gw_s_X1_read_s_X1_passSign_51 : GoodIn u_s_X1_read (wsV RX1 51 RX1 yX1_passSign u_s_X1_passSign) := z_gV (z_gr _ [20, 21, 22, 18] rfl (by decide +kernel)) (fun w h => ⟨z_mc (z_mr (z_mr (z_mr (z_mr (z_mr (z_mr (z_mr (z_ml h)))))))), gd_s_X1_passSign w h⟩)
set_option maxHeartbeats 4000000 in
set_option maxRecDepth 100000 in
theorem s_X1_read (l : Launch) (dC : Nat → ClassId) (dI : Nat → Nat → Nat) (sz : Nat) (sd : Nat → Nat) (sv : Nat → Nat) (sf : Value) (h0 : Nat) (p1 : Int32) (p2 : Int32) (a_tp : Nat) (a_pa : Nat) (fn : Int32) (fk : Int32) (fs : Int32) (fp : Int32) (a_tb : Nat) (tt : Int32) (ta : Int32) (tj : Int32) (tf : Int32) (ts : Int32) (te : Int32) (to : Int32) (tg : Int32) (tx : Int32) (ty : Int32) (ca_tb : ClassId) (fa_tb : Nat → Int32) (a_pa_0 : Value) (a_pa_1 : Value) (a_fo : Nat) (a_pa_3 : Value) (a_pa_4 : Value) (a_pa_5 : Value) (a_pa_6 : Value) (a_pa_7 : Value) (a_pa_8 : Value) (pk : Int32) (ca_fo : ClassId) (fa_fo : Nat → Int32) (hB_tt : ((0 : Int) ≤ (tt).toInt ∧ (tt).toInt ≤ (700 : Int))) (hB_ta : ((0 : Int) ≤ (ta).toInt ∧ (ta).toInt ≤ (700 : Int))) (hB_tf : ((0 : Int) ≤ (tf).toInt ∧ (tf).toInt ≤ (700 : Int))) (hB_ts : ((0 : Int) ≤ (ts).toInt ∧ (ts).toInt ≤ (700 : Int))) (hB_te : ((0 : Int) ≤ (te).toInt ∧ (te).toInt ≤ (700 : Int))) (hB_p1 : ((0 : Int) ≤ (p1).toInt ∧ (p1).toInt ≤ (700 : Int))) (hB_p2 : ((0 : Int) ≤ (p2).toInt ∧ (p2).toInt ≤ (79 : Int))) (hB_pk : ((0 : Int) ≤ (pk).toInt ∧ (pk).toInt ≤ (6 : Int))) (hI_a_tb : ∀ j : Nat, ((0 : Int) ≤ (fa_tb j).toInt ∧ (fa_tb j).toInt ≤ (255 : Int))) : Met l yX1_read u_s_X1_read ({ frames := 7, cells := 0, slots := 0, locals := 154 }) (va_Pc [.ref h0, .int p1, .int p2] (z_CS (dC, dI) vwCl [(h0, .inr (1, [.ref a_tp, .ref a_pa, .int fn, .int fk, .int fs, .int fp])), (a_tp, .inr (10, [.ref a_tb, .int tt, .int ta, .int tj, .int tf, .int ts, .int te, .int to, .int tg, .int tx, .int ty])), (a_tb, .inl (ca_tb, 700, .inl fa_tb)), (a_pa, .inr (5, [a_pa_0, a_pa_1, .ref a_fo, a_pa_3, a_pa_4, a_pa_5, a_pa_6, a_pa_7, a_pa_8, .int pk])), (a_fo, .inl (ca_fo, 11520, .inl fa_fo))] [(ca_tb, .int), (ca_fo, .int)] sz sd sv sf [(h0, .inr (1, [.ref a_tp, .ref a_pa, .int fn, .int fk, .int fs, .int fp])), (a_tp, .inr (10, [.ref a_tb, .int tt, .int ta, .int tj, .int tf, .int ts, .int te, .int to, .int tg, .int tx, .int ty])), (a_tb, .inl (ca_tb, 700, .inl fa_tb)), (a_pa, .inr (5, [a_pa_0, a_pa_1, .ref a_fo, a_pa_3, a_pa_4, a_pa_5, a_pa_6, a_pa_7, a_pa_8, .int pk])), (a_fo, .inl (ca_fo, 11520, .inl fa_fo))])) (va_Qi (fun (r : Int32) (_ : Unit) => ((0 : Int) ≤ (r).toInt ∧ (r).toInt ≤ (1 : Int))) (fun (_ : Unit) (t : State) => ∃ (n_h0_note : Int32), ∃ (n_h0_kind : Int32), ∃ (n_h0_sieve : Int32), ∃ (n_h0_toldParts : Int32), ∃ (n_a_tp_text : Int32), ∃ (n_a_tp_digitsJoin : Int32), ∃ (n_a_tp_fed : Int32), ∃ (n_a_tp_at : Int32), ∃ (n_a_tp_start : Int32), ∃ (n_a_tp_end : Int32), ∃ (n_a_tp_sort : Int32), ∃ (n_a_tp_sign : Int32), ∃ (n_a_tp_faultSort : Int32), ∃ (n_a_tp_faultPlace : Int32), ∃ (g_a_fo : Nat → Int32), ((0 : Int) ≤ (n_a_tp_text).toInt ∧ (n_a_tp_text).toInt ≤ (700 : Int)) ∧ ((0 : Int) ≤ (n_a_tp_fed).toInt ∧ (n_a_tp_fed).toInt ≤ (700 : Int)) ∧ ((0 : Int) ≤ (n_a_tp_at).toInt ∧ (n_a_tp_at).toInt ≤ (700 : Int)) ∧ ((0 : Int) ≤ (n_a_tp_start).toInt ∧ (n_a_tp_start).toInt ≤ (700 : Int)) ∧ ((0 : Int) ≤ (n_a_tp_end).toInt ∧ (n_a_tp_end).toInt ≤ (700 : Int)) ∧ va_P (dC, dI) vwCl [(h0, .inr (1, [.ref a_tp, .ref a_pa, .int n_h0_note, .int n_h0_kind, .int n_h0_sieve, .int n_h0_toldParts])), (a_tp, .inr (10, [.ref a_tb, .int n_a_tp_text, .int n_a_tp_at, .int n_a_tp_digitsJoin, .int n_a_tp_fed, .int n_a_tp_start, .int n_a_tp_end, .int n_a_tp_sort, .int n_a_tp_sign, .int n_a_tp_faultSort, .int n_a_tp_faultPlace])), (a_tb, .inl (ca_tb, 700, .inl fa_tb)), (a_pa, .inr (5, [a_pa_0, a_pa_1, .ref a_fo, a_pa_3, a_pa_4, a_pa_5, a_pa_6, a_pa_7, a_pa_8, .int pk])), (a_fo, .inl (ca_fo, 11520, .inl g_a_fo))] t.heap ∧ va_K (dC, dI) vwCl [] t ∧ va_D (va_A [(h0, .inr (1, [.ref a_tp, .ref a_pa, .int fn, .int fk, .int fs, .int fp])), (a_tp, .inr (10, [.ref a_tb, .int tt, .int ta, .int tj, .int tf, .int ts, .int te, .int to, .int tg, .int tx, .int ty])), (a_tb, .inl (ca_tb, 700, .inl fa_tb)), (a_pa, .inr (5, [a_pa_0, a_pa_1, .ref a_fo, a_pa_3, a_pa_4, a_pa_5, a_pa_6, a_pa_7, a_pa_8, .int pk])), (a_fo, .inl (ca_fo, 11520, .inl fa_fo))] sz) [(h0, .inr (1, [.ref a_tp, .ref a_pa, .int n_h0_note, .int n_h0_kind, .int n_h0_sieve, .int n_h0_toldParts])), (a_tp, .inr (10, [.ref a_tb, .int n_a_tp_text, .int n_a_tp_at, .int n_a_tp_digitsJoin, .int n_a_tp_fed, .int n_a_tp_start, .int n_a_tp_end, .int n_a_tp_sort, .int n_a_tp_sign, .int n_a_tp_faultSort, .int n_a_tp_faultPlace])), (a_tb, .inl (ca_tb, 700, .inl fa_tb)), (a_pa, .inr (5, [a_pa_0, a_pa_1, .ref a_fo, a_pa_3, a_pa_4, a_pa_5, a_pa_6, a_pa_7, a_pa_8, .int pk])), (a_fo, .inl (ca_fo, 11520, .inl g_a_fo))]) (va_A [(h0, .inr (1, [.ref a_tp, .ref a_pa, .int fn, .int fk, .int fs, .int fp])), (a_tp, .inr (10, [.ref a_tb, .int tt, .int ta, .int tj, .int tf, .int ts, .int te, .int to, .int tg, .int tx, .int ty])), (a_tb, .inl (ca_tb, 700, .inl fa_tb)), (a_pa, .inr (5, [a_pa_0, a_pa_1, .ref a_fo, a_pa_3, a_pa_4, a_pa_5, a_pa_6, a_pa_7, a_pa_8, .int pk])), (a_fo, .inl (ca_fo, 11520, .inl fa_fo))] sz)) 0 0 (va_A [(h0, .inr (1, [.ref a_tp, .ref a_pa, .int fn, .int fk, .int fs, .int fp])), (a_tp, .inr (10, [.ref a_tb, .int tt, .int ta, .int tj, .int tf, .int ts, .int te, .int to, .int tg, .int tx, .int ty])), (a_tb, .inl (ca_tb, 700, .inl fa_tb)), (a_pa, .inr (5, [a_pa_0, a_pa_1, .ref a_fo, a_pa_3, a_pa_4, a_pa_5, a_pa_6, a_pa_7, a_pa_8, .int pk])), (a_fo, .inl (ca_fo, 11520, .inl fa_fo))] sz) := by
  refine Met.ofW (cc := cX1_read) (maxL := 4) (ret := (some .boolean)) (by decide) rfl ?_
  intro p e s m args below meth c s₁ B hml hv
  obtain ⟨rfl, ⟨hsz, hP, hK, hD0⟩, hST⟩ := hv
  have hx := B.exec
  have hb := B.bytes
  have hr := B.returns
  have hts := atoms_spec (ws := u_s_X1_read) B.pre
  have hown : s.vm.findClass RX1 = some m.cls := findClass_of_methodNamed B.named
  have hlocks := B.notSynchronized
  subst hsz
  have hD := hD0.self (sz := s.heap.size)
  generalize hAe : va_A [(h0, .inr (1, [.ref a_tp, .ref a_pa, .int fn, .int fk, .int fs, .int fp])), (a_tp, .inr (10, [.ref a_tb, .int tt, .int ta, .int tj, .int tf, .int ts, .int te, .int to, .int tg, .int tx, .int ty])), (a_tb, .inl (ca_tb, 700, .inl fa_tb)), (a_pa, .inr (5, [a_pa_0, a_pa_1, .ref a_fo, a_pa_3, a_pa_4, a_pa_5, a_pa_6, a_pa_7, a_pa_8, .int pk])), (a_fo, .inl (ca_fo, 11520, .inl fa_fo))] s.heap.size = A at hD hST ⊢
  have hA : ∀ q : Nat, s.heap.size ≤ q → A q := fun q h => by rw [← hAe]; exact Or.inr h
  have hS : va_S A s.heap s.heap [] := va_S.rf
  have hP : va_P (dC, dI) vwCl [(h0, .inr (1, [.ref a_tp, .ref a_pa, .int fn, .int fk, .int fs, .int fp])), (a_tp, .inr (10, [.ref a_tb, .int tt, .int ta, .int tj, .int tf, .int ts, .int te, .int to, .int tg, .int tx, .int ty])), (a_tb, .inl (ca_tb, 700, .inl fa_tb)), (a_pa, .inr (5, [a_pa_0, a_pa_1, .ref a_fo, a_pa_3, a_pa_4, a_pa_5, a_pa_6, a_pa_7, a_pa_8, .int pk])), (a_fo, .inl (ca_fo, 11520, .inl fa_fo))] s.heap := hP
  have w__fieldLink_RX1_9_ShellHeap_FindsReader_note_I_ := hts (.fieldLink RX1 9 "ShellHeap$FindsReader" "note" "I") (z_mc (z_ml z_m0))
  have hiX1 := show ∀ w ∈ u_ws RX1 TX1 6, w ∈ u_s_X1_read from fun w h => z_mc (z_mr (z_ml h))
  have w__fieldLink_RX1_28_ShellHeap_FindsReader_pantry_LShellHeap_Pantry_ := hts (.fieldLink RX1 28 "ShellHeap$FindsReader" "pantry" "LShellHeap$Pantry;") (z_mc (z_ml z_m1))
  have w__fieldLink_RX1_24_ShellHeap_FindsReader_tape_LShellHeap_Tape_ := hts (.fieldLink RX1 24 "ShellHeap$FindsReader" "tape" "LShellHeap$Tape;") (z_mc (z_ml z_m6))
  have w__fieldLink_RX1_48_ShellHeap_Tape_sort_I_ := hts (.fieldLink RX1 48 "ShellHeap$Tape" "sort" "I") (z_mc (z_ml z_m18))
  have hiX10 := show ∀ w ∈ u_ws RX10 TX10 11, w ∈ u_s_X1_read from fun w h => z_mc (z_mr (z_mr (z_ml h)))
  have hl := lv_entry ([.ref h0, .int p1, .int p2]) (n := 4) (Nat.le_of_ble_eq_true rfl)
  rw [lg_entry_eq]
  generalize (lg_sl ([.ref h0, .int p1, .int p2]) ++ List.replicate (4 - (lg_sl ([.ref h0, .int p1, .int p2])).length) Slot.unset).toArray = ls at hl ⊢
  have hl : lv_has ls 4 [(0, .ref h0), (1, .int p1), (2, .int p2)] := hl
  refine z_nameQ (fun QQ hQQ => ?_)
  refine lv_aload_n hx hb dX1_read_0 rfl (lv_at hl 0 rfl) ?_
  refine lv_iload_n hx hb dX1_read_1 rfl (lv_at hl 2 rfl) ?_
  refine va_put (D := (dC, dI)) (ci := 1) (v := .int p2) (ty := .int) (C := RX1) (T := TX1) (N := 6) hx hb hts hiX1 tyX1 tyX1_ok nmX1 hown hK hP hD hS 0 rfl rfl 2 (by decide) w__fieldLink_RX1_9_ShellHeap_FindsReader_note_I_ (fun _ h9 => h9) rfl (by decide +kernel) rfl rfl (Nat.le_of_ble_eq_true rfl) dX1_read_2 (fun H_1 locs hP hD hS => ?_)
  obtain ⟨hP, hD⟩ := z_s_0_2 hP hD
  refine lv_aload_n hx hb dX1_read_5 rfl (lv_at hl 0 rfl) ?_
  refine va_get (D := (dC, dI)) (ci := 1) (v := .ref a_pa) (C := RX1) (T := TX1) (N := 6) hx hb hts hiX1 hown hK hP 0 rfl rfl 1 (by decide) w__fieldLink_RX1_28_ShellHeap_FindsReader_pantry_LShellHeap_Pantry_ (fun _ h9 => h9) rfl dX1_read_6 ?_
  refine lv_aload_n hx hb dX1_read_9 rfl (lv_at hl 0 rfl) ?_
  refine va_get (D := (dC, dI)) (ci := 1) (v := .int p2) (C := RX1) (T := TX1) (N := 6) hx hb hts hiX1 hown hK hP 0 rfl rfl 2 (by decide) w__fieldLink_RX1_9_ShellHeap_FindsReader_note_I_ (fun _ h9 => h9) rfl dX1_read_10 ?_
  obtain ⟨hPc, hDc, hFc⟩ := z_sub3 (ws' := [(a_pa, .inr (5, [a_pa_0, a_pa_1, .ref a_fo, a_pa_3, a_pa_4, a_pa_5, a_pa_6, a_pa_7, a_pa_8, .int pk])), (a_fo, .inl (ca_fo, 11520, .inl fa_fo))]) hP hD hS hA [3, 4] (by decide) rfl
  have hKc := hK.sub (tys' := [(ca_fo, .int)]) [1] rfl
  refine va_callv (va_runV (As := [.int p2]) (rest := []) ⟨hx, hb, hml, hown, hts⟩ (s_X5_clear l dC dI H_1.size a_pa p2 a_pa_0 a_pa_1 a_fo a_pa_3 a_pa_4 a_pa_5 a_pa_6 a_pa_7 a_pa_8 (.int pk) ca_fo fa_fo hB_p2) (cwV 1 hts gw_s_X1_read_s_X5_clear_32 rfl rfl rfl (by decide +kernel) ⟨Nat.le_of_ble_eq_true rfl, Nat.le_of_ble_eq_true rfl⟩) ⟨z_blind, va_recv hKc hPc (ci := 5) (q0 := 0) rfl rfl, z_pre hPc hKc hDc⟩ rfl rfl hl.1 rfl (lv_room (Nat.le_of_ble_eq_true rfl)) dX1_read_13 ⟨Nat.le_of_ble_eq_true rfl, Nat.le_of_ble_eq_true rfl⟩) hS (fun q _ h => hFc q h) hFc (fun u t H_2 locs ht hvm hw_4 hB hz1 hk1 hS => ?_)
  obtain ⟨g_h1_5, hP1, hK1, hD1⟩ := hB
  rw [ht] at hP1
  have hK1 := va_K.moved hvm.symm hK1
  obtain ⟨hP, hD⟩ := z_ap_3 (va_join (wr := [(h0, .inr (1, [.ref a_tp, .ref a_pa, .int p2, .int fk, .int fs, .int fp])), (a_tp, .inr (10, [.ref a_tb, .int tt, .int ta, .int tj, .int tf, .int ts, .int te, .int to, .int tg, .int tx, .int ty])), (a_tb, .inl (ca_tb, 700, .inl fa_tb))]) hP hD [3, 4] [0, 1, 2] rfl rfl (by decide) (by decide) hk1 hFc hP1 hD1)
  clear hPc hDc hKc
  refine lv_aload_n hx hb dX1_read_16 rfl (lv_at hl 0 rfl) ?_
  refine va_get (D := (dC, dI)) (ci := 1) (v := .ref a_tp) (C := RX1) (T := TX1) (N := 6) hx hb hts hiX1 hown hK hP 0 rfl rfl 0 (by decide) w__fieldLink_RX1_24_ShellHeap_FindsReader_tape_LShellHeap_Tape_ (fun _ h9 => h9) rfl dX1_read_17 ?_
  refine lv_iload_n hx hb dX1_read_20 rfl (lv_at hl 1 rfl) ?_
  refine lv_iconst (v := 1) hx hb dX1_read_21 (by decide) ?_
  obtain ⟨hPc, hDc, hFc⟩ := z_sub3 (ws' := [(a_tp, .inr (10, [.ref a_tb, .int tt, .int ta, .int tj, .int tf, .int ts, .int te, .int to, .int tg, .int tx, .int ty])), (a_tb, .inl (ca_tb, 700, .inl fa_tb))]) hP hD hS hA [1, 2] (by decide) rfl
  have hKc := hK.sub (tys' := [(ca_tb, .int)]) [0] rfl
  refine va_callv (va_runV (As := [.int p1, .int 1]) (rest := []) ⟨hx, hb, hml, hown, hts⟩ (s_X10_open_f l dC dI H_2.size a_tp p1 a_tb tt ta tj tf ts te to tg tx ty ca_tb fa_tb hB_tt hB_ta hB_tf hB_ts hB_te hB_p1 hI_a_tb) (cwV 2 hts gw_s_X1_read_s_X10_open_f_38 rfl rfl rfl (by decide +kernel) ⟨Nat.le_of_ble_eq_true rfl, Nat.le_of_ble_eq_true rfl⟩) ⟨z_blind, va_recv hKc hPc (ci := 10) (q0 := 0) rfl rfl, z_pre hPc hKc hDc⟩ rfl rfl hl.1 rfl (lv_room (Nat.le_of_ble_eq_true rfl)) dX1_read_22 ⟨Nat.le_of_ble_eq_true rfl, Nat.le_of_ble_eq_true rfl⟩) hS (fun q _ h => hFc q h) hFc (fun u t H_6 locs ht hvm hw_8 hB hz1 hk1 hS => ?_)
  obtain ⟨n_h0_at_9, n_h0_start_10, n_h0_end_11, n_h0_sort_12, n_h0_sign_13, hp_14, hp_15, hp_16, hp_17, hp_18, hP1, hK1, hD1⟩ := hB
  rw [ht] at hP1
  have hK1 := va_K.moved hvm.symm hK1
  obtain ⟨hP, hD⟩ := z_ap_3 (va_join (wr := [(h0, .inr (1, [.ref a_tp, .ref a_pa, .int p2, .int fk, .int fs, .int fp])), (a_pa, .inr (5, [a_pa_0, a_pa_1, .ref a_fo, a_pa_3, a_pa_4, a_pa_5, a_pa_6, a_pa_7, a_pa_8, .int pk])), (a_fo, .inl (ca_fo, 11520, .inl g_h1_5))]) hP hD [1, 2] [0, 3, 4] rfl rfl (by decide) (by decide) hk1 hFc hP1 hD1)
  have hp_17 : (n_h0_sort_12.toInt = (1 : Int) → z_tok fa_tb n_h0_start_10.toInt n_h0_end_11.toInt ∧ n_h0_end_11.toInt ≤ p1.toInt) := hp_17
  have hp_18 : n_h0_at_9.toInt ≤ p1.toInt := hp_18
  clear hPc hDc hKc
  refine lv_iconst (v := 0) hx hb dX1_read_25 (by decide) ?_
  refine lv_istore_n (lv' := [(3, .int 0), (0, .ref h0), (1, .int p1), (2, .int p2)]) hx hb dX1_read_26 rfl hl (by decide) rfl (fun ls hl => ?_)
  have loop_19 : ∀ (n_20 : Nat) (i_22 : Int32) (v_23 : Int32) (v_24 : Int32) (v_25 : Int32) (v_26 : Int32) (v_27 : Int32) (v_28 : Int32) (v_29 : Int32) (v_30 : Int32) (v_31 : Int32) (v_32 : Int32) (f_33 : Nat → Int32) (H : Heap) (locs : List Loc) (ls : Array Slot), (701 - (i_22).toInt).toNat < n_20 → (((0 : Int) ≤ (i_22).toInt ∧ (i_22).toInt ≤ (700 : Int))) → (((0 : Int) ≤ (v_26).toInt ∧ (v_26).toInt ≤ (700 : Int))) → (((0 : Int) ≤ (v_27).toInt ∧ (v_27).toInt ≤ (700 : Int))) → (((0 : Int) ≤ (v_28).toInt ∧ (v_28).toInt ≤ (700 : Int))) → (((v_29).toInt = (1 : Int) → z_tok fa_tb (v_27).toInt (v_28).toInt ∧ (v_28).toInt ≤ (p1).toInt)) → ((v_26).toInt ≤ (p1).toInt) → va_P (dC, dI) vwCl [(h0, .inr (1, [.ref a_tp, .ref a_pa, .int p2, .int v_23, .int v_24, .int v_25])), (a_pa, .inr (5, [a_pa_0, a_pa_1, .ref a_fo, a_pa_3, a_pa_4, a_pa_5, a_pa_6, a_pa_7, a_pa_8, .int pk])), (a_fo, .inl (ca_fo, 11520, .inl f_33)), (a_tp, .inr (10, [.ref a_tb, .int p1, .int v_26, .int 1, .int 0, .int v_27, .int v_28, .int v_29, .int v_30, .int v_31, .int v_32])), (a_tb, .inl (ca_tb, 700, .inl fa_tb))] H → va_D A [(h0, .inr (1, [.ref a_tp, .ref a_pa, .int p2, .int v_23, .int v_24, .int v_25])), (a_pa, .inr (5, [a_pa_0, a_pa_1, .ref a_fo, a_pa_3, a_pa_4, a_pa_5, a_pa_6, a_pa_7, a_pa_8, .int pk])), (a_fo, .inl (ca_fo, 11520, .inl f_33)), (a_tp, .inr (10, [.ref a_tb, .int p1, .int v_26, .int 1, .int 0, .int v_27, .int v_28, .int v_29, .int v_30, .int v_31, .int v_32])), (a_tb, .inl (ca_tb, 700, .inl fa_tb))] → va_S A s.heap H locs → lv_has ls 4 [(3, .int i_22), (0, .ref h0), (1, .int p1), (2, .int p2)] → W p l e ({ frames := 7, cells := 0, slots := 0, locals := 154 } : Room) s m ([.ref h0, .int p1, .int p2] : List Value).toArray below meth c H locs 0 0 QQ (F0 m 27 ls []) := by
    intro n_20
    induction n_20 with
    | zero => intro i_22 v_23 v_24 v_25 v_26 v_27 v_28 v_29 v_30 v_31 v_32 f_33 H locs ls hm; exact absurd hm (Nat.not_lt_zero _)
    | succ n_20 ih_21 =>
      intro i_22 v_23 v_24 v_25 v_26 v_27 v_28 v_29 v_30 v_31 v_32 f_33 H locs ls hm hF_34 hF_35 hF_36 hF_37 hF_38 hF_39 hP hD hS hl
      refine lv_iload_n hx hb dX1_read_27 rfl (lv_at hl 0 rfl) ?_
      refine lv_sipush (v := 700) hx hb dX1_read_28 (by decide) ?_
      refine lv_icmp_ge (tgt := 84) hx hb dX1_read_31 (by decide) (fun c_40 => ?_) (fun c_40 => ?_)
      · have k_41 : (700 : Int) ≤ (i_22).toInt := z_le c_40
        obtain rfl : i_22 = 700 := z_eq' (show (i_22).toInt = (700 : Int) by omega)
        refine lv_aload_n hx hb dX1_read_84 rfl (lv_at hl 1 rfl) ?_
        refine va_get (D := (dC, dI)) (ci := 1) (v := .ref a_tp) (C := RX1) (T := TX1) (N := 6) hx hb hts hiX1 hown hK hP 0 rfl rfl 0 (by decide) w__fieldLink_RX1_24_ShellHeap_FindsReader_tape_LShellHeap_Tape_ (fun _ h9 => h9) rfl dX1_read_85 ?_
        refine lv_iconst (v := 1) hx hb dX1_read_88 (by decide) ?_
        obtain ⟨hPc, hDc, hFc⟩ := z_sub3 (ws' := [(a_tp, .inr (10, [.ref a_tb, .int p1, .int v_26, .int 1, .int 0, .int v_27, .int v_28, .int v_29, .int v_30, .int v_31, .int v_32]))]) hP hD hS hA [3] (by decide) rfl
        have hKc := hK.sub (tys' := []) [] rfl
        refine va_calli (va_runV (As := [.int 1]) (rest := []) ⟨hx, hb, hml, hown, hts⟩ (s_X10_fail l dC dI H.size a_tp 1 (.ref a_tb) (.int p1) (.int v_26) (.int 1) (.int 0) v_27 (.int v_28) (.int v_29) (.int v_30) v_31 v_32 hF_36) (cwV 1 hts gw_s_X1_read_s_X10_fail_55 rfl rfl rfl (by decide +kernel) ⟨Nat.le_of_ble_eq_true rfl, Nat.le_of_ble_eq_true rfl⟩) ⟨z_blind, va_recv hKc hPc (ci := 10) (q0 := 0) rfl rfl, z_pre hPc hKc hDc⟩ rfl rfl hl.1 rfl (lv_room (Nat.le_of_ble_eq_true rfl)) dX1_read_89 ⟨Nat.le_of_ble_eq_true rfl, Nat.le_of_ble_eq_true rfl⟩) hS (fun q _ h => hFc q h) hFc (fun r_44 u t H_43 locs ht hvm hw_45 hB hz1 hk1 hS => ?_)
        obtain ⟨n_h0_faultSort_46, n_h0_faultPlace_47, hP1, hK1, hD1⟩ := hB
        rw [ht] at hP1
        have hK1 := va_K.moved hvm.symm hK1
        obtain ⟨hP, hD⟩ := z_ap_4 (va_join (wr := [(h0, .inr (1, [.ref a_tp, .ref a_pa, .int p2, .int v_23, .int v_24, .int v_25])), (a_pa, .inr (5, [a_pa_0, a_pa_1, .ref a_fo, a_pa_3, a_pa_4, a_pa_5, a_pa_6, a_pa_7, a_pa_8, .int pk])), (a_fo, .inl (ca_fo, 11520, .inl f_33)), (a_tb, .inl (ca_tb, 700, .inl fa_tb))]) hP hD [3] [0, 1, 2, 4] rfl rfl (by decide) (by decide) hk1 hFc hP1 hD1)
        clear hPc hDc hKc
        obtain rfl : r_44 = 0 := hw_45
        refine z_backQ hQQ ?_
        obtain ⟨hP9, hD9⟩ := z_sub2 (ws' := [(h0, .inr (1, [.ref a_tp, .ref a_pa, .int p2, .int v_23, .int v_24, .int v_25])), (a_tp, .inr (10, [.ref a_tb, .int p1, .int v_26, .int 1, .int 0, .int v_27, .int v_28, .int v_29, .int v_30, .int n_h0_faultSort_46, .int n_h0_faultPlace_47])), (a_tb, .inl (ca_tb, 700, .inl fa_tb)), (a_pa, .inr (5, [a_pa_0, a_pa_1, .ref a_fo, a_pa_3, a_pa_4, a_pa_5, a_pa_6, a_pa_7, a_pa_8, .int pk])), (a_fo, .inl (ca_fo, 11520, .inl f_33))]) hP hD [0, 4, 3, 1, 2] (by decide) rfl
        have hK9 := hK.sub (tys' := []) [] rfl
        refine W.widen (k := 0) (n := 0) (Nat.le_of_ble_eq_true rfl) (Nat.le_of_ble_eq_true rfl) ?_
        exact W.zret (v := 0) hx hb hr (by rfl) (fun t ht hW => ⟨⟨0, (), rfl, (show ((0 : Int) ≤ (0 : Int) ∧ (0 : Int) ≤ (1 : Int)) by decide), ⟨p2, v_23, v_24, v_25, p1, 1, 0, v_26, v_27, v_28, v_29, v_30, n_h0_faultSort_46, n_h0_faultPlace_47, f_33, hB_p1, (by decide), hF_35, hF_36, hF_37, by rw [ht]; exact hP9, va_K.moved hW.alike hK9, hD9⟩⟩, hS.F ht⟩) hS.2.2 dX1_read_92
      · have k_48 : (700 : Int) > (i_22).toInt := z_nle c_40
        refine lv_aload_n hx hb dX1_read_34 rfl (lv_at hl 1 rfl) ?_
        obtain ⟨hPc, hDc, hFc⟩ := z_sub3 (ws' := [(h0, .inr (1, [.ref a_tp, .ref a_pa, .int p2, .int v_23, .int v_24, .int v_25])), (a_tp, .inr (10, [.ref a_tb, .int p1, .int v_26, .int 1, .int 0, .int v_27, .int v_28, .int v_29, .int v_30, .int v_31, .int v_32])), (a_tb, .inl (ca_tb, 700, .inl fa_tb)), (a_pa, .inr (5, [a_pa_0, a_pa_1, .ref a_fo, a_pa_3, a_pa_4, a_pa_5, a_pa_6, a_pa_7, a_pa_8, .int pk])), (a_fo, .inl (ca_fo, 11520, .inl f_33))]) hP hD hS hA [0, 3, 4, 1, 2] (by decide) rfl
        have hKc := hK
        refine va_calli (va_runV (As := []) (rest := []) ⟨hx, hb, hml, hown, hts⟩ (s_X1_readFind l dC dI H.size sd sv sf h0 a_tp a_pa p2 v_23 v_24 v_25 a_tb p1 v_26 1 0 v_27 v_28 v_29 v_30 v_31 v_32 ca_tb fa_tb a_pa_0 a_pa_1 a_fo a_pa_3 a_pa_4 a_pa_5 a_pa_6 a_pa_7 a_pa_8 pk ca_fo f_33 hB_p1 hF_35 (by decide) hF_36 hF_37 hB_p2 hB_pk hI_a_tb hF_38 (by first | omega | decide)) (cwV 0 hts gw_s_X1_read_s_X1_readFind_44 rfl rfl rfl (by decide +kernel) ⟨Nat.le_of_ble_eq_true rfl, Nat.le_of_ble_eq_true rfl⟩) ⟨z_blindS, va_recv hKc hPc (ci := 1) (q0 := 0) rfl rfl, z_preS hPc hKc hDc ((hST.kept hS.2.1).narrow hFc)⟩ rfl rfl hl.1 rfl (lv_room (Nat.le_of_ble_eq_true rfl)) dX1_read_35 ⟨Nat.le_of_ble_eq_true rfl, Nat.le_of_ble_eq_true rfl⟩) hS (fun q _ h => hFc q h) hFc (fun r_50 u t H_49 locs ht hvm hw_51 hB hz1 hk1 hS => ?_)
        obtain ⟨n_h0_kind_52, n_h0_sieve_53, n_h0_toldParts_54, n_a_tp_at_55, n_a_tp_start_56, n_a_tp_end_57, n_a_tp_sort_58, n_a_tp_sign_59, n_a_tp_faultSort_60, n_a_tp_faultPlace_61, g_a_fo_62, hp_63, hp_64, hp_65, hp_66, hp_67, hP1, hK1, hD1⟩ := hB
        rw [ht] at hP1
        have hK1 := va_K.moved hvm.symm hK1
        obtain ⟨hP, hD⟩ := z_ap_0 (va_join (wr := []) hP hD [0, 3, 4, 1, 2] [] rfl rfl (by decide) (by decide) hk1 hFc hP1 hD1)
        have hp_66 : (n_a_tp_sort_58.toInt = (1 : Int) → z_tok fa_tb n_a_tp_start_56.toInt n_a_tp_end_57.toInt ∧ n_a_tp_end_57.toInt ≤ p1.toInt) := hp_66
        have hp_67 : n_a_tp_at_55.toInt ≤ p1.toInt := hp_67
        clear hPc hDc hKc
        rcases hw_51 with ⟨rfl, hw_51⟩ | ⟨rfl, hw_51⟩
        · have hw_51 : True := hw_51
          refine lv_if_ne (tgt := 43) hx hb dX1_read_38 (by decide) (fun _ => ?_) (fun c_68 => absurd c_68 (by decide))
          refine lv_aload_n hx hb dX1_read_43 rfl (lv_at hl 1 rfl) ?_
          refine va_get (D := (dC, dI)) (ci := 1) (v := .ref a_tp) (C := RX1) (T := TX1) (N := 6) hx hb hts hiX1 hown hK hP 0 rfl rfl 0 (by decide) w__fieldLink_RX1_24_ShellHeap_FindsReader_tape_LShellHeap_Tape_ (fun _ h9 => h9) rfl dX1_read_44 ?_
          refine va_get (D := (dC, dI)) (ci := 10) (v := .int n_a_tp_sort_58) (C := RX10) (T := TX10) (N := 11) hx hb hts hiX10 hown hK hP 1 rfl rfl 7 (by decide) w__fieldLink_RX1_48_ShellHeap_Tape_sort_I_ (fun _ h9 => h9) rfl dX1_read_47 ?_
          refine lv_if_ne (tgt := 55) hx hb dX1_read_50 (by decide) (fun c_69 => ?_) (fun c_69 => ?_)
          · have k_70 : (n_a_tp_sort_58).toInt ≠ (0 : Int) := z_ne c_69
            refine lv_aload_n hx hb dX1_read_55 rfl (lv_at hl 1 rfl) ?_
            refine lv_bipush (v := 59) hx hb dX1_read_56 (by decide) ?_
            obtain ⟨hPc, hDc, hFc⟩ := z_sub3 (ws' := [(h0, .inr (1, [.ref a_tp, .ref a_pa, .int p2, .int n_h0_kind_52, .int n_h0_sieve_53, .int n_h0_toldParts_54])), (a_tp, .inr (10, [.ref a_tb, .int p1, .int n_a_tp_at_55, .int 1, .int 0, .int n_a_tp_start_56, .int n_a_tp_end_57, .int n_a_tp_sort_58, .int n_a_tp_sign_59, .int n_a_tp_faultSort_60, .int n_a_tp_faultPlace_61])), (a_tb, .inl (ca_tb, 700, .inl fa_tb))]) hP hD hS hA [0, 1, 2] (by decide) rfl
            have hKc := hK.sub (tys' := [(ca_tb, .int)]) [0] rfl
            refine va_calli (va_runV (As := [.int 59]) (rest := []) ⟨hx, hb, hml, hown, hts⟩ (s_X1_passSign l dC dI H_49.size sd sv sf h0 59 a_tp a_pa p2 n_h0_kind_52 n_h0_sieve_53 n_h0_toldParts_54 a_tb p1 n_a_tp_at_55 1 0 n_a_tp_start_56 n_a_tp_end_57 n_a_tp_sort_58 n_a_tp_sign_59 n_a_tp_faultSort_60 n_a_tp_faultPlace_61 ca_tb fa_tb hB_p1 hp_63 (by decide) hp_64 hp_65 hI_a_tb hp_66 (by first | omega | decide)) (cwV 1 hts gw_s_X1_read_s_X1_passSign_51 rfl rfl rfl (by decide +kernel) ⟨Nat.le_of_ble_eq_true rfl, Nat.le_of_ble_eq_true rfl⟩) ⟨z_blindS, va_recv hKc hPc (ci := 1) (q0 := 0) rfl rfl, z_preS hPc hKc hDc ((hST.kept hS.2.1).narrow hFc)⟩ rfl rfl hl.1 rfl (lv_room (Nat.le_of_ble_eq_true rfl)) dX1_read_58 ⟨Nat.le_of_ble_eq_true rfl, Nat.le_of_ble_eq_true rfl⟩) hS (fun q _ h => hFc q h) hFc (fun r_72 u t H_71 locs ht hvm hw_73 hB hz1 hk1 hS => ?_)
            obtain ⟨n_a_tp_at_74, n_a_tp_start_75, n_a_tp_end_76, n_a_tp_sort_77, n_a_tp_sign_78, n_a_tp_faultSort_79, n_a_tp_faultPlace_80, hp_81, hp_82, hp_83, hp_84, hp_85, hP1, hK1, hD1⟩ := hB
            rw [ht] at hP1
            have hK1 := va_K.moved hvm.symm hK1
            obtain ⟨hP, hD⟩ := z_ap_2 (va_join (wr := [(a_pa, .inr (5, [a_pa_0, a_pa_1, .ref a_fo, a_pa_3, a_pa_4, a_pa_5, a_pa_6, a_pa_7, a_pa_8, .int pk])), (a_fo, .inl (ca_fo, 11520, .inl g_a_fo_62))]) hP hD [0, 1, 2] [3, 4] rfl rfl (by decide) (by decide) hk1 hFc hP1 hD1)
            have hp_84 : (n_a_tp_sort_77.toInt = (1 : Int) → z_tok fa_tb n_a_tp_start_75.toInt n_a_tp_end_76.toInt ∧ n_a_tp_end_76.toInt ≤ p1.toInt) := hp_84
            have hp_85 : n_a_tp_at_74.toInt ≤ p1.toInt := hp_85
            clear hPc hDc hKc
            rcases hw_73 with ⟨rfl, hw_73⟩ | ⟨rfl, hw_73⟩
            · have hw_73 : True := hw_73
              refine lv_if_ne (tgt := 66) hx hb dX1_read_61 (by decide) (fun _ => ?_) (fun c_86 => absurd c_86 (by decide))
              refine lv_aload_n hx hb dX1_read_66 rfl (lv_at hl 1 rfl) ?_
              refine va_get (D := (dC, dI)) (ci := 1) (v := .ref a_tp) (C := RX1) (T := TX1) (N := 6) hx hb hts hiX1 hown hK hP 2 rfl rfl 0 (by decide) w__fieldLink_RX1_24_ShellHeap_FindsReader_tape_LShellHeap_Tape_ (fun _ h9 => h9) rfl dX1_read_67 ?_
              refine va_get (D := (dC, dI)) (ci := 10) (v := .int n_a_tp_sort_77) (C := RX10) (T := TX10) (N := 11) hx hb hts hiX10 hown hK hP 3 rfl rfl 7 (by decide) w__fieldLink_RX1_48_ShellHeap_Tape_sort_I_ (fun _ h9 => h9) rfl dX1_read_70 ?_
              refine lv_if_ne (tgt := 78) hx hb dX1_read_73 (by decide) (fun c_87 => ?_) (fun c_87 => ?_)
              · have k_88 : (n_a_tp_sort_77).toInt ≠ (0 : Int) := z_ne c_87
                obtain ⟨z_89, ez_89⟩ : ∃ y : Int32, y = i_22 + 1 := ⟨_, rfl⟩
                have kz_89 : (z_89).toInt = (i_22).toInt + (1 : Int) := by rw [ez_89]; exact z_add (b := 1) rfl rfl (z_al hF_34.1 (by decide)) (z_ah hF_34.2 (by decide))
                refine lv_iinc (v := z_89) (lv' := [(3, .int z_89), (0, .ref h0), (1, .int p1), (2, .int p2)]) hx hb dX1_read_78 hl (k := 0) rfl (by rw [ez_89]; rfl) (by decide) rfl (fun ls hl => ?_)
                refine lv_goto (tgt := 27) hx hb dX1_read_81 (by decide) ?_
                exact ih_21 z_89 n_h0_kind_52 n_h0_sieve_53 n_h0_toldParts_54 n_a_tp_at_74 n_a_tp_start_75 n_a_tp_end_76 n_a_tp_sort_77 n_a_tp_sign_78 n_a_tp_faultSort_79 n_a_tp_faultPlace_80 g_a_fo_62 _ _ _ (show (701 - (z_89).toInt).toNat < n_20 by omega) (show ((0 : Int) ≤ (z_89).toInt ∧ (z_89).toInt ≤ (700 : Int)) by omega) (show ((0 : Int) ≤ (n_a_tp_at_74).toInt ∧ (n_a_tp_at_74).toInt ≤ (700 : Int)) by omega) (show ((0 : Int) ≤ (n_a_tp_start_75).toInt ∧ (n_a_tp_start_75).toInt ≤ (700 : Int)) by omega) (show ((0 : Int) ≤ (n_a_tp_end_76).toInt ∧ (n_a_tp_end_76).toInt ≤ (700 : Int)) by omega) (show ((n_a_tp_sort_77).toInt = (1 : Int) → z_tok fa_tb (n_a_tp_start_75).toInt (n_a_tp_end_76).toInt ∧ (n_a_tp_end_76).toInt ≤ (p1).toInt) from hp_84) (show (n_a_tp_at_74).toInt ≤ (p1).toInt by omega) (hP.sub (ws' := [(h0, .inr (1, [.ref a_tp, .ref a_pa, .int p2, .int n_h0_kind_52, .int n_h0_sieve_53, .int n_h0_toldParts_54])), (a_pa, .inr (5, [a_pa_0, a_pa_1, .ref a_fo, a_pa_3, a_pa_4, a_pa_5, a_pa_6, a_pa_7, a_pa_8, .int pk])), (a_fo, .inl (ca_fo, 11520, .inl g_a_fo_62)), (a_tp, .inr (10, [.ref a_tb, .int p1, .int n_a_tp_at_74, .int 1, .int 0, .int n_a_tp_start_75, .int n_a_tp_end_76, .int n_a_tp_sort_77, .int n_a_tp_sign_78, .int n_a_tp_faultSort_79, .int n_a_tp_faultPlace_80])), (a_tb, .inl (ca_tb, 700, .inl fa_tb))]) [2, 0, 1, 3, 4] rfl) (hD.sub (ws' := [(h0, .inr (1, [.ref a_tp, .ref a_pa, .int p2, .int n_h0_kind_52, .int n_h0_sieve_53, .int n_h0_toldParts_54])), (a_pa, .inr (5, [a_pa_0, a_pa_1, .ref a_fo, a_pa_3, a_pa_4, a_pa_5, a_pa_6, a_pa_7, a_pa_8, .int pk])), (a_fo, .inl (ca_fo, 11520, .inl g_a_fo_62)), (a_tp, .inr (10, [.ref a_tb, .int p1, .int n_a_tp_at_74, .int 1, .int 0, .int n_a_tp_start_75, .int n_a_tp_end_76, .int n_a_tp_sort_77, .int n_a_tp_sign_78, .int n_a_tp_faultSort_79, .int n_a_tp_faultPlace_80])), (a_tb, .inl (ca_tb, 700, .inl fa_tb))]) [2, 0, 1, 3, 4] (by decide) rfl) hS (lv_sub hl [0, 1, 2, 3] rfl)
              · have k_90 : (n_a_tp_sort_77).toInt = (0 : Int) := z_eq c_87
                obtain rfl : n_a_tp_sort_77 = 0 := z_eq' (show (n_a_tp_sort_77).toInt = (0 : Int) by omega)
                refine lv_iconst (v := 1) hx hb dX1_read_76 (by decide) ?_
                refine z_backQ hQQ ?_
                obtain ⟨hP9, hD9⟩ := z_sub2 (ws' := [(h0, .inr (1, [.ref a_tp, .ref a_pa, .int p2, .int n_h0_kind_52, .int n_h0_sieve_53, .int n_h0_toldParts_54])), (a_tp, .inr (10, [.ref a_tb, .int p1, .int n_a_tp_at_74, .int 1, .int 0, .int n_a_tp_start_75, .int n_a_tp_end_76, .int 0, .int n_a_tp_sign_78, .int n_a_tp_faultSort_79, .int n_a_tp_faultPlace_80])), (a_tb, .inl (ca_tb, 700, .inl fa_tb)), (a_pa, .inr (5, [a_pa_0, a_pa_1, .ref a_fo, a_pa_3, a_pa_4, a_pa_5, a_pa_6, a_pa_7, a_pa_8, .int pk])), (a_fo, .inl (ca_fo, 11520, .inl g_a_fo_62))]) hP hD [2, 3, 4, 0, 1] (by decide) rfl
                have hK9 := hK.sub (tys' := []) [] rfl
                refine W.widen (k := 0) (n := 0) (Nat.le_of_ble_eq_true rfl) (Nat.le_of_ble_eq_true rfl) ?_
                exact W.zret (v := 1) hx hb hr (by rfl) (fun t ht hW => ⟨⟨1, (), rfl, (show ((0 : Int) ≤ (1 : Int) ∧ (1 : Int) ≤ (1 : Int)) by decide), ⟨p2, n_h0_kind_52, n_h0_sieve_53, n_h0_toldParts_54, p1, 1, 0, n_a_tp_at_74, n_a_tp_start_75, n_a_tp_end_76, 0, n_a_tp_sign_78, n_a_tp_faultSort_79, n_a_tp_faultPlace_80, g_a_fo_62, hB_p1, (by decide), hp_81, hp_82, hp_83, by rw [ht]; exact hP9, va_K.moved hW.alike hK9, hD9⟩⟩, hS.F ht⟩) hS.2.2 dX1_read_77
            · have hw_73 : True := hw_73
              refine lv_if_ne (tgt := 66) hx hb dX1_read_61 (by decide) (fun c_92 => absurd c_92 (by decide)) (fun _ => ?_)
              refine lv_iconst (v := 0) hx hb dX1_read_64 (by decide) ?_
              refine z_backQ hQQ ?_
              obtain ⟨hP9, hD9⟩ := z_sub2 (ws' := [(h0, .inr (1, [.ref a_tp, .ref a_pa, .int p2, .int n_h0_kind_52, .int n_h0_sieve_53, .int n_h0_toldParts_54])), (a_tp, .inr (10, [.ref a_tb, .int p1, .int n_a_tp_at_74, .int 1, .int 0, .int n_a_tp_start_75, .int n_a_tp_end_76, .int n_a_tp_sort_77, .int n_a_tp_sign_78, .int n_a_tp_faultSort_79, .int n_a_tp_faultPlace_80])), (a_tb, .inl (ca_tb, 700, .inl fa_tb)), (a_pa, .inr (5, [a_pa_0, a_pa_1, .ref a_fo, a_pa_3, a_pa_4, a_pa_5, a_pa_6, a_pa_7, a_pa_8, .int pk])), (a_fo, .inl (ca_fo, 11520, .inl g_a_fo_62))]) hP hD [2, 3, 4, 0, 1] (by decide) rfl
              have hK9 := hK.sub (tys' := []) [] rfl
              refine W.widen (k := 0) (n := 0) (Nat.le_of_ble_eq_true rfl) (Nat.le_of_ble_eq_true rfl) ?_
              exact W.zret (v := 0) hx hb hr (by rfl) (fun t ht hW => ⟨⟨0, (), rfl, (show ((0 : Int) ≤ (0 : Int) ∧ (0 : Int) ≤ (1 : Int)) by decide), ⟨p2, n_h0_kind_52, n_h0_sieve_53, n_h0_toldParts_54, p1, 1, 0, n_a_tp_at_74, n_a_tp_start_75, n_a_tp_end_76, n_a_tp_sort_77, n_a_tp_sign_78, n_a_tp_faultSort_79, n_a_tp_faultPlace_80, g_a_fo_62, hB_p1, (by decide), hp_81, hp_82, hp_83, by rw [ht]; exact hP9, va_K.moved hW.alike hK9, hD9⟩⟩, hS.F ht⟩) hS.2.2 dX1_read_65
          · have k_93 : (n_a_tp_sort_58).toInt = (0 : Int) := z_eq c_69
            obtain rfl : n_a_tp_sort_58 = 0 := z_eq' (show (n_a_tp_sort_58).toInt = (0 : Int) by omega)
            refine lv_iconst (v := 1) hx hb dX1_read_53 (by decide) ?_
            refine z_backQ hQQ ?_
            have hP9 := hP
            have hD9 := hD
            have hK9 := hK.sub (tys' := []) [] rfl
            refine W.widen (k := 0) (n := 0) (Nat.le_of_ble_eq_true rfl) (Nat.le_of_ble_eq_true rfl) ?_
            exact W.zret (v := 1) hx hb hr (by rfl) (fun t ht hW => ⟨⟨1, (), rfl, (show ((0 : Int) ≤ (1 : Int) ∧ (1 : Int) ≤ (1 : Int)) by decide), ⟨p2, n_h0_kind_52, n_h0_sieve_53, n_h0_toldParts_54, p1, 1, 0, n_a_tp_at_55, n_a_tp_start_56, n_a_tp_end_57, 0, n_a_tp_sign_59, n_a_tp_faultSort_60, n_a_tp_faultPlace_61, g_a_fo_62, hB_p1, (by decide), hp_63, hp_64, hp_65, by rw [ht]; exact hP9, va_K.moved hW.alike hK9, hD9⟩⟩, hS.F ht⟩) hS.2.2 dX1_read_54
        · have hw_51 : True := hw_51
          refine lv_if_ne (tgt := 43) hx hb dX1_read_38 (by decide) (fun c_95 => absurd c_95 (by decide)) (fun _ => ?_)
          refine lv_iconst (v := 0) hx hb dX1_read_41 (by decide) ?_
          refine z_backQ hQQ ?_
          have hP9 := hP
          have hD9 := hD
          have hK9 := hK.sub (tys' := []) [] rfl
          refine W.widen (k := 0) (n := 0) (Nat.le_of_ble_eq_true rfl) (Nat.le_of_ble_eq_true rfl) ?_
          exact W.zret (v := 0) hx hb hr (by rfl) (fun t ht hW => ⟨⟨0, (), rfl, (show ((0 : Int) ≤ (0 : Int) ∧ (0 : Int) ≤ (1 : Int)) by decide), ⟨p2, n_h0_kind_52, n_h0_sieve_53, n_h0_toldParts_54, p1, 1, 0, n_a_tp_at_55, n_a_tp_start_56, n_a_tp_end_57, n_a_tp_sort_58, n_a_tp_sign_59, n_a_tp_faultSort_60, n_a_tp_faultPlace_61, g_a_fo_62, hB_p1, (by decide), hp_63, hp_64, hp_65, by rw [ht]; exact hP9, va_K.moved hW.alike hK9, hD9⟩⟩, hS.F ht⟩) hS.2.2 dX1_read_42
  exact loop_19 _ 0 fk fs fp n_h0_at_9 n_h0_start_10 n_h0_end_11 n_h0_sort_12 n_h0_sign_13 0 (-1) g_h1_5 _ _ _ (Nat.lt_succ_self _) (show ((0 : Int) ≤ (0 : Int) ∧ (0 : Int) ≤ (700 : Int)) by omega) (show ((0 : Int) ≤ (n_h0_at_9).toInt ∧ (n_h0_at_9).toInt ≤ (700 : Int)) by omega) (show ((0 : Int) ≤ (n_h0_start_10).toInt ∧ (n_h0_start_10).toInt ≤ (700 : Int)) by omega) (show ((0 : Int) ≤ (n_h0_end_11).toInt ∧ (n_h0_end_11).toInt ≤ (700 : Int)) by omega) (show ((n_h0_sort_12).toInt = (1 : Int) → z_tok fa_tb (n_h0_start_10).toInt (n_h0_end_11).toInt ∧ (n_h0_end_11).toInt ≤ (p1).toInt) from hp_17) (show (n_h0_at_9).toInt ≤ (p1).toInt by omega) hP hD hS hl
def u_s_X8_tightness : List Cond := .code yX8_tightness cX8_tightness 1 (some .int) :: ([] ++ [])
theorem gd_s_X8_tightness : z_gd u_s_X8_tightness := z_gdc (by decide +kernel) (z_gd0)
set_option maxHeartbeats 4000000 in
set_option maxRecDepth 100000 in
theorem s_X8_tightness (l : Launch) (dC : Nat → ClassId) (dI : Nat → Nat → Nat) (sz : Nat) (p0 : Int32) : Met l yX8_tightness u_s_X8_tightness ({ frames := 0, cells := 0, slots := 0, locals := 0 }) (va_Pc [.int p0] (z_C (dC, dI) vwCl [] [] sz)) (va_Qi (fun (r : Int32) (_ : Unit) => True) (fun (_ : Unit) (_ : State) => True) (va_A [] sz)) 0 0 (va_A [] sz) := by
  refine Met.ofW (cc := cX8_tightness) (maxL := 1) (ret := (some .int)) (by decide) rfl ?_
  intro p e s m args below meth c s₁ B hml hv
  obtain ⟨rfl, hsz, hP, hK, hD0⟩ := hv
  have hx := B.exec
  have hb := B.bytes
  have hr := B.returns
  have hts := atoms_spec (ws := u_s_X8_tightness) B.pre
  have hown : s.vm.findClass RX8 = some m.cls := findClass_of_methodNamed B.named
  have hlocks := B.notSynchronized
  subst hsz
  have hD := hD0
  generalize hAe : va_A [] s.heap.size = A
  have hA : ∀ q : Nat, s.heap.size ≤ q → A q := fun q h => by rw [← hAe]; exact Or.inr h
  have hS : va_S A s.heap s.heap [] := va_S.rf
  have hP : va_P (dC, dI) vwCl [] s.heap := hP
  have krr_p0 := z_rng p0
  have hl := lv_entry ([.int p0]) (n := 1) (Nat.le_of_ble_eq_true rfl)
  rw [lg_entry_eq]
  generalize (lg_sl ([.int p0]) ++ List.replicate (1 - (lg_sl ([.int p0])).length) Slot.unset).toArray = ls at hl ⊢
  have hl : lv_has ls 1 [(0, .int p0)] := hl
  refine lv_iload_n hx hb dX8_tightness_0 rfl (lv_at hl 0 rfl) ?_
  refine lv_bipush (v := 10) hx hb dX8_tightness_1 (by decide) ?_
  refine lv_idiv hx hb dX8_tightness_3 (by decide) ?_
  refine lv_topi (fun z_1 ez_1 => ?_)
  refine W.widen (k := 0) (n := 0) (Nat.le_of_ble_eq_true rfl) (Nat.le_of_ble_eq_true rfl) ?_
  exact W.iret (v := z_1) hx hb hr (fun t ht hW => ⟨⟨z_1, (), rfl, trivial, trivial⟩, hS.F ht⟩) hS.2.2 dX8_tightness_4
def u_s_X8_lastWaiting : List Cond := .code yX8_lastWaiting cX8_lastWaiting 1 (some .int) :: ([.fieldLink RX8 23 "ShellHeap$RulesReader" "waits" "I", .fieldLink RX8 20 "ShellHeap$RulesReader" "waiting" "[I"] ++ (wsX80 ++ []))
theorem gd_s_X8_lastWaiting : z_gd u_s_X8_lastWaiting := z_gdc (by decide +kernel) (z_gda gdX8 (z_gd0))
set_option maxHeartbeats 4000000 in
set_option maxRecDepth 100000 in
theorem s_X8_lastWaiting (l : Launch) (dC : Nat → ClassId) (dI : Nat → Nat → Nat) (sz : Nat) (h0 : Nat) (a_tp : Nat) (a_t1 : Nat) (a_t2 : Nat) (a_w1 : Nat) (uw : Int32) (uo : Int32) (up : Int32) (a_dr : Nat) (h0_8 : Value) (ca_w1 : ClassId) (fa_w1 : Nat → Int32) (hB_uw : ((0 : Int) ≤ (uw).toInt ∧ (uw).toInt ≤ (104 : Int))) : Met l yX8_lastWaiting u_s_X8_lastWaiting ({ frames := 0, cells := 0, slots := 0, locals := 0 }) (va_Pc [.ref h0] (z_C (dC, dI) vwCl [(h0, .inr (8, [.ref a_tp, .ref a_t1, .ref a_t2, .ref a_w1, .int uw, .int uo, .int up, .ref a_dr, h0_8])), (a_w1, .inl (ca_w1, 104, .inl fa_w1))] [(ca_w1, .int)] sz)) (va_Qi (fun (r : Int32) (_ : Unit) => True) (fun (_ : Unit) (_ : State) => True) (va_A [] sz)) 0 0 (va_A [] sz) := by
  refine Met.ofW (cc := cX8_lastWaiting) (maxL := 1) (ret := (some .int)) (by decide) rfl ?_
  intro p e s m args below meth c s₁ B hml hv
  obtain ⟨rfl, hsz, hP, hK, hD0⟩ := hv
  have hx := B.exec
  have hb := B.bytes
  have hr := B.returns
  have hts := atoms_spec (ws := u_s_X8_lastWaiting) B.pre
  have hown : s.vm.findClass RX8 = some m.cls := findClass_of_methodNamed B.named
  have hlocks := B.notSynchronized
  subst hsz
  have hD := hD0
  generalize hAe : va_A [] s.heap.size = A
  have hA : ∀ q : Nat, s.heap.size ≤ q → A q := fun q h => by rw [← hAe]; exact Or.inr h
  have hS : va_S A s.heap s.heap [] := va_S.rf
  have hP : va_P (dC, dI) vwCl [(h0, .inr (8, [.ref a_tp, .ref a_t1, .ref a_t2, .ref a_w1, .int uw, .int uo, .int up, .ref a_dr, h0_8])), (a_w1, .inl (ca_w1, 104, .inl fa_w1))] s.heap := hP
  have w__fieldLink_RX8_23_ShellHeap_RulesReader_waits_I_ := hts (.fieldLink RX8 23 "ShellHeap$RulesReader" "waits" "I") (z_mc (z_ml z_m0))
  have hiX8 := show ∀ w ∈ u_ws RX8 TX8 9, w ∈ u_s_X8_lastWaiting from fun w h => z_mc (z_mr (z_ml h))
  have w__fieldLink_RX8_20_ShellHeap_RulesReader_waiting_I_ := hts (.fieldLink RX8 20 "ShellHeap$RulesReader" "waiting" "[I") (z_mc (z_ml z_m1))
  have hl := lv_entry ([.ref h0]) (n := 1) (Nat.le_of_ble_eq_true rfl)
  rw [lg_entry_eq]
  generalize (lg_sl ([.ref h0]) ++ List.replicate (1 - (lg_sl ([.ref h0])).length) Slot.unset).toArray = ls at hl ⊢
  have hl : lv_has ls 1 [(0, .ref h0)] := hl
  refine lv_aload_n hx hb dX8_lastWaiting_0 rfl (lv_at hl 0 rfl) ?_
  refine va_get (D := (dC, dI)) (ci := 8) (v := .int uw) (C := RX8) (T := TX8) (N := 9) hx hb hts hiX8 hown hK hP 0 rfl rfl 4 (by decide) w__fieldLink_RX8_23_ShellHeap_RulesReader_waits_I_ (fun _ h9 => h9) rfl dX8_lastWaiting_1 ?_
  refine lv_if_le (tgt := 33) hx hb dX8_lastWaiting_4 (by decide) (fun c_1 => ?_) (fun c_1 => ?_)
  · have k_2 : (uw).toInt ≤ (0 : Int) := z_le c_1
    obtain rfl : uw = 0 := z_eq' (show (uw).toInt = (0 : Int) by omega)
    refine lv_iconst (v := 0) hx hb dX8_lastWaiting_33 (by decide) ?_
    refine W.widen (k := 0) (n := 0) (Nat.le_of_ble_eq_true rfl) (Nat.le_of_ble_eq_true rfl) ?_
    exact W.iret (v := 0) hx hb hr (fun t ht hW => ⟨⟨0, (), rfl, trivial, trivial⟩, hS.F ht⟩) hS.2.2 dX8_lastWaiting_34
  · have k_4 : (uw).toInt > (0 : Int) := z_nle c_1
    refine lv_aload_n hx hb dX8_lastWaiting_7 rfl (lv_at hl 0 rfl) ?_
    refine va_get (D := (dC, dI)) (ci := 8) (v := .int uw) (C := RX8) (T := TX8) (N := 9) hx hb hts hiX8 hown hK hP 0 rfl rfl 4 (by decide) w__fieldLink_RX8_23_ShellHeap_RulesReader_waits_I_ (fun _ h9 => h9) rfl dX8_lastWaiting_8 ?_
    refine lv_aload_n hx hb dX8_lastWaiting_11 rfl (lv_at hl 0 rfl) ?_
    refine va_get (D := (dC, dI)) (ci := 8) (v := .ref a_w1) (C := RX8) (T := TX8) (N := 9) hx hb hts hiX8 hown hK hP 0 rfl rfl 3 (by decide) w__fieldLink_RX8_20_ShellHeap_RulesReader_waiting_I_ (fun _ h9 => h9) rfl dX8_lastWaiting_12 ?_
    refine va_alen (v := 104) hx hb hK hP 1 0 rfl rfl (show Int32.ofNat 104 = 104 by decide) dX8_lastWaiting_15 ?_
    refine lv_icmp_gt (tgt := 33) hx hb dX8_lastWaiting_16 (by decide) (fun c_5 => ?_) (fun c_5 => ?_)
    · exfalso
      have k_6 : (104 : Int) < (uw).toInt := z_lt c_5
      omega
    refine lv_aload_n hx hb dX8_lastWaiting_19 rfl (lv_at hl 0 rfl) ?_
    refine va_get (D := (dC, dI)) (ci := 8) (v := .ref a_w1) (C := RX8) (T := TX8) (N := 9) hx hb hts hiX8 hown hK hP 0 rfl rfl 3 (by decide) w__fieldLink_RX8_20_ShellHeap_RulesReader_waiting_I_ (fun _ h9 => h9) rfl dX8_lastWaiting_20 ?_
    refine lv_aload_n hx hb dX8_lastWaiting_23 rfl (lv_at hl 0 rfl) ?_
    refine va_get (D := (dC, dI)) (ci := 8) (v := .int uw) (C := RX8) (T := TX8) (N := 9) hx hb hts hiX8 hown hK hP 0 rfl rfl 4 (by decide) w__fieldLink_RX8_23_ShellHeap_RulesReader_waits_I_ (fun _ h9 => h9) rfl dX8_lastWaiting_24 ?_
    refine lv_iconst (v := 1) hx hb dX8_lastWaiting_27 (by decide) ?_
    refine lv_isub hx hb dX8_lastWaiting_28 ?_
    refine lv_topi (fun z_7 ez_7 => ?_)
    have kz_7 : (z_7).toInt = (uw).toInt - (1 : Int) := by rw [ez_7]; exact z_sub (a := (uw).toInt) (b := (1 : Int)) rfl rfl (z_mlo hB_uw.1 (by decide)) (z_mhi hB_uw.2 (by decide))
    refine va_iald hx hb hK hP 1 0 rfl rfl (z_vpin (by omega) (by omega)) dX8_lastWaiting_29 ?_
    refine lv_topi (fun z_8 ez_8 => ?_)
    refine lv_goto (tgt := 34) hx hb dX8_lastWaiting_30 (by decide) ?_
    refine W.widen (k := 0) (n := 0) (Nat.le_of_ble_eq_true rfl) (Nat.le_of_ble_eq_true rfl) ?_
    exact W.iret (v := z_8) hx hb hr (fun t ht hW => ⟨⟨z_8, (), rfl, trivial, trivial⟩, hS.F ht⟩) hS.2.2 dX8_lastWaiting_34
def u_s_X8_await : List Cond := .code yX8_await cX8_await 2 none :: ([.fieldLink RX8 23 "ShellHeap$RulesReader" "waits" "I", .fieldLink RX8 20 "ShellHeap$RulesReader" "waiting" "[I"] ++ (wsX80 ++ []))
theorem gd_s_X8_await : z_gd u_s_X8_await := z_gdc (by decide +kernel) (z_gda gdX8 (z_gd0))
set_option maxHeartbeats 4000000 in
set_option maxRecDepth 100000 in
theorem s_X8_await (l : Launch) (dC : Nat → ClassId) (dI : Nat → Nat → Nat) (sz : Nat) (h0 : Nat) (p1 : Int32) (a_tp : Nat) (a_t1 : Nat) (a_t2 : Nat) (a_w1 : Nat) (uw : Int32) (uo : Int32) (up : Int32) (a_dr : Nat) (h0_8 : Value) (ca_w1 : ClassId) (fa_w1 : Nat → Int32) (hB_uw : ((0 : Int) ≤ (uw).toInt ∧ (uw).toInt ≤ (104 : Int))) : Met l yX8_await u_s_X8_await ({ frames := 0, cells := 0, slots := 0, locals := 0 }) (va_Pc [.ref h0, .int p1] (z_C (dC, dI) vwCl [(h0, .inr (8, [.ref a_tp, .ref a_t1, .ref a_t2, .ref a_w1, .int uw, .int uo, .int up, .ref a_dr, h0_8])), (a_w1, .inl (ca_w1, 104, .inl fa_w1))] [(ca_w1, .int)] sz)) (va_Qv (fun (_ : Unit) => True) (fun (_ : Unit) (t : State) => ∃ (n_h0_waits : Int32), ∃ (g_a_w1 : Nat → Int32), ((0 : Int) ≤ (n_h0_waits).toInt ∧ (n_h0_waits).toInt ≤ (104 : Int)) ∧ va_P (dC, dI) vwCl [(h0, .inr (8, [.ref a_tp, .ref a_t1, .ref a_t2, .ref a_w1, .int n_h0_waits, .int uo, .int up, .ref a_dr, h0_8])), (a_w1, .inl (ca_w1, 104, .inl g_a_w1))] t.heap ∧ va_K (dC, dI) vwCl [] t ∧ va_D (va_A [(h0, .inr (8, [.ref a_tp, .ref a_t1, .ref a_t2, .ref a_w1, .int uw, .int uo, .int up, .ref a_dr, h0_8])), (a_w1, .inl (ca_w1, 104, .inl fa_w1))] sz) [(h0, .inr (8, [.ref a_tp, .ref a_t1, .ref a_t2, .ref a_w1, .int n_h0_waits, .int uo, .int up, .ref a_dr, h0_8])), (a_w1, .inl (ca_w1, 104, .inl g_a_w1))]) (va_A [(h0, .inr (8, [.ref a_tp, .ref a_t1, .ref a_t2, .ref a_w1, .int uw, .int uo, .int up, .ref a_dr, h0_8])), (a_w1, .inl (ca_w1, 104, .inl fa_w1))] sz)) 0 0 (va_A [(h0, .inr (8, [.ref a_tp, .ref a_t1, .ref a_t2, .ref a_w1, .int uw, .int uo, .int up, .ref a_dr, h0_8])), (a_w1, .inl (ca_w1, 104, .inl fa_w1))] sz) := by
  refine Met.ofW (cc := cX8_await) (maxL := 2) (ret := none) (by decide) rfl ?_
  intro p e s m args below meth c s₁ B hml hv
  obtain ⟨rfl, hsz, hP, hK, hD0⟩ := hv
  have hx := B.exec
  have hb := B.bytes
  have hr := B.returns
  have hts := atoms_spec (ws := u_s_X8_await) B.pre
  have hown : s.vm.findClass RX8 = some m.cls := findClass_of_methodNamed B.named
  have hlocks := B.notSynchronized
  subst hsz
  have hD := hD0.self (sz := s.heap.size)
  generalize hAe : va_A [(h0, .inr (8, [.ref a_tp, .ref a_t1, .ref a_t2, .ref a_w1, .int uw, .int uo, .int up, .ref a_dr, h0_8])), (a_w1, .inl (ca_w1, 104, .inl fa_w1))] s.heap.size = A at hD ⊢
  have hA : ∀ q : Nat, s.heap.size ≤ q → A q := fun q h => by rw [← hAe]; exact Or.inr h
  have hS : va_S A s.heap s.heap [] := va_S.rf
  have hP : va_P (dC, dI) vwCl [(h0, .inr (8, [.ref a_tp, .ref a_t1, .ref a_t2, .ref a_w1, .int uw, .int uo, .int up, .ref a_dr, h0_8])), (a_w1, .inl (ca_w1, 104, .inl fa_w1))] s.heap := hP
  have w__fieldLink_RX8_23_ShellHeap_RulesReader_waits_I_ := hts (.fieldLink RX8 23 "ShellHeap$RulesReader" "waits" "I") (z_mc (z_ml z_m0))
  have hiX8 := show ∀ w ∈ u_ws RX8 TX8 9, w ∈ u_s_X8_await from fun w h => z_mc (z_mr (z_ml h))
  have w__fieldLink_RX8_20_ShellHeap_RulesReader_waiting_I_ := hts (.fieldLink RX8 20 "ShellHeap$RulesReader" "waiting" "[I") (z_mc (z_ml z_m1))
  have krr_p1 := z_rng p1
  have hl := lv_entry ([.ref h0, .int p1]) (n := 2) (Nat.le_of_ble_eq_true rfl)
  rw [lg_entry_eq]
  generalize (lg_sl ([.ref h0, .int p1]) ++ List.replicate (2 - (lg_sl ([.ref h0, .int p1])).length) Slot.unset).toArray = ls at hl ⊢
  have hl : lv_has ls 2 [(0, .ref h0), (1, .int p1)] := hl
  refine lv_aload_n hx hb dX8_await_0 rfl (lv_at hl 0 rfl) ?_
  refine va_get (D := (dC, dI)) (ci := 8) (v := .int uw) (C := RX8) (T := TX8) (N := 9) hx hb hts hiX8 hown hK hP 0 rfl rfl 4 (by decide) w__fieldLink_RX8_23_ShellHeap_RulesReader_waits_I_ (fun _ h9 => h9) rfl dX8_await_1 ?_
  refine lv_aload_n hx hb dX8_await_4 rfl (lv_at hl 0 rfl) ?_
  refine va_get (D := (dC, dI)) (ci := 8) (v := .ref a_w1) (C := RX8) (T := TX8) (N := 9) hx hb hts hiX8 hown hK hP 0 rfl rfl 3 (by decide) w__fieldLink_RX8_20_ShellHeap_RulesReader_waiting_I_ (fun _ h9 => h9) rfl dX8_await_5 ?_
  refine va_alen (v := 104) hx hb hK hP 1 0 rfl rfl (show Int32.ofNat 104 = 104 by decide) dX8_await_8 ?_
  refine lv_icmp_ge (tgt := 32) hx hb dX8_await_9 (by decide) (fun c_1 => ?_) (fun c_1 => ?_)
  · have k_2 : (104 : Int) ≤ (uw).toInt := z_le c_1
    obtain rfl : uw = 104 := z_eq' (show (uw).toInt = (104 : Int) by omega)
    have hP9 := hP
    have hD9 := hD
    have hK9 := hK.sub (tys' := []) [] rfl
    refine W.widen (k := 0) (n := 0) (Nat.le_of_ble_eq_true rfl) (Nat.le_of_ble_eq_true rfl) ?_
    exact W.vret hx hb hr (fun t ht hW => ⟨⟨(), rfl, trivial, ⟨104, fa_w1, (by decide), by rw [ht]; exact hP9, va_K.moved hW.alike hK9, hD9⟩⟩, hS.F ht⟩) hS.2.2 dX8_await_32
  · have k_4 : (104 : Int) > (uw).toInt := z_nle c_1
    refine lv_aload_n hx hb dX8_await_12 rfl (lv_at hl 0 rfl) ?_
    refine va_get (D := (dC, dI)) (ci := 8) (v := .ref a_w1) (C := RX8) (T := TX8) (N := 9) hx hb hts hiX8 hown hK hP 0 rfl rfl 3 (by decide) w__fieldLink_RX8_20_ShellHeap_RulesReader_waiting_I_ (fun _ h9 => h9) rfl dX8_await_13 ?_
    refine lv_aload_n hx hb dX8_await_16 rfl (lv_at hl 0 rfl) ?_
    refine va_get (D := (dC, dI)) (ci := 8) (v := .int uw) (C := RX8) (T := TX8) (N := 9) hx hb hts hiX8 hown hK hP 0 rfl rfl 4 (by decide) w__fieldLink_RX8_23_ShellHeap_RulesReader_waits_I_ (fun _ h9 => h9) rfl dX8_await_17 ?_
    refine lv_iload_n hx hb dX8_await_20 rfl (lv_at hl 1 rfl) ?_
    refine va_iast hx hb hK hP hD hS 1 0 rfl rfl (z_vpin (by omega) (by omega)) dX8_await_21 (fun H_5 locs hP hD hS => ?_)
    obtain ⟨hP, hD⟩ := z_s_1 hP hD
    generalize (upd fa_w1 (uw : Int32).toNatClampNeg p1) = f_6 at hP hD
    refine lv_aload_n hx hb dX8_await_22 rfl (lv_at hl 0 rfl) ?_
    refine lv_dup hx hb dX8_await_23 rfl ?_
    refine va_get (D := (dC, dI)) (ci := 8) (v := .int uw) (C := RX8) (T := TX8) (N := 9) hx hb hts hiX8 hown hK hP 0 rfl rfl 4 (by decide) w__fieldLink_RX8_23_ShellHeap_RulesReader_waits_I_ (fun _ h9 => h9) rfl dX8_await_24 ?_
    refine lv_iconst (v := 1) hx hb dX8_await_27 (by decide) ?_
    refine lv_iadd hx hb dX8_await_28 ?_
    refine lv_topi (fun z_7 ez_7 => ?_)
    have kz_7 : (z_7).toInt = (uw).toInt + (1 : Int) := by rw [ez_7]; exact z_add (a := (uw).toInt) (b := (1 : Int)) rfl rfl (z_al hB_uw.1 (by decide)) (z_ah hB_uw.2 (by decide))
    refine va_put (D := (dC, dI)) (ci := 8) (v := .int z_7) (ty := .int) (C := RX8) (T := TX8) (N := 9) hx hb hts hiX8 tyX8 tyX8_ok nmX8 hown hK hP hD hS 0 rfl rfl 4 (by decide) w__fieldLink_RX8_23_ShellHeap_RulesReader_waits_I_ (fun _ h9 => h9) rfl (by decide +kernel) rfl rfl (Nat.le_of_ble_eq_true rfl) dX8_await_29 (fun H_8 locs hP hD hS => ?_)
    obtain ⟨hP, hD⟩ := z_s_0_4 hP hD
    have hP9 := hP
    have hD9 := hD
    have hK9 := hK.sub (tys' := []) [] rfl
    refine W.widen (k := 0) (n := 0) (Nat.le_of_ble_eq_true rfl) (Nat.le_of_ble_eq_true rfl) ?_
    exact W.vret hx hb hr (fun t ht hW => ⟨⟨(), rfl, trivial, ⟨z_7, f_6, (by first | omega | decide), by rw [ht]; exact hP9, va_K.moved hW.alike hK9, hD9⟩⟩, hS.F ht⟩) hS.2.2 dX8_await_32
def u_s_X8_settle : List Cond := .code yX8_settle cX8_settle 2 none :: ([.fieldLink RX8 23 "ShellHeap$RulesReader" "waits" "I", .methodLink RX8 150 yX8_lastWaiting, .instanceMethod yX8_lastWaiting, .selects RX8 yX8_lastWaiting yX8_lastWaiting, .initialized RX8, .methodLink RX8 103 yX8_tightness, .static yX8_tightness, .fieldLink RX8 35 "ShellHeap$RulesReader" "draft" "LShellHeap$Rules;", .methodLink RX8 146 yX7_add, .instanceMethod yX7_add, .selects RX7 yX7_add yX7_add, .initialized RX7] ++ (wsX80 ++ (u_s_X8_lastWaiting ++ (u_s_X8_tightness ++ (u_s_X7_add ++ [])))))
theorem gd_s_X8_settle : z_gd u_s_X8_settle := z_gdc (by decide +kernel) (z_gda gdX8 (z_gda gd_s_X8_lastWaiting (z_gda gd_s_X8_tightness (z_gda gd_s_X7_add (z_gd0)))))
set_option maxRecDepth 20000 in
theorem gw_s_X8_settle_s_X8_lastWaiting_150 : GoodIn u_s_X8_settle (wsV RX8 150 RX8 yX8_lastWaiting u_s_X8_lastWaiting) := z_gV (z_gr _ [2, 3, 4, 5] rfl (by decide +kernel)) (fun w h => ⟨z_mc (z_mr (z_mr (z_ml h))), gd_s_X8_lastWaiting w h⟩)
set_option maxRecDepth 20000 in
theorem gw_s_X8_settle_s_X8_tightness_103 : GoodIn u_s_X8_settle (va_wsS RX8 103 yX8_tightness u_s_X8_tightness) := z_gS (z_gr _ [6, 7, 5] rfl (by decide +kernel)) (fun w h => ⟨z_mc (z_mr (z_mr (z_mr (z_ml h)))), gd_s_X8_tightness w h⟩)
set_option maxRecDepth 20000 in
theorem gw_s_X8_settle_s_X7_add_146 : GoodIn u_s_X8_settle (wsV RX8 146 RX7 yX7_add u_s_X7_add) := z_gV (z_gr _ [9, 10, 11, 12] rfl (by decide +kernel)) (fun w h => ⟨z_mc (z_mr (z_mr (z_mr (z_mr (z_ml h))))), gd_s_X7_add w h⟩)
set_option maxHeartbeats 4000000 in
set_option maxRecDepth 100000 in
theorem s_X8_settle (l : Launch) (dC : Nat → ClassId) (dI : Nat → Nat → Nat) (sz : Nat) (h0 : Nat) (p1 : Int32) (a_tp : Nat) (a_t1 : Nat) (a_t2 : Nat) (a_w1 : Nat) (uw : Int32) (uo : Int32) (up : Int32) (a_dr : Nat) (h0_8 : Value) (ca_w1 : ClassId) (fa_w1 : Nat → Int32) (a_d1 : Nat) (a_d2 : Nat) (a_d3 : Nat) (rl : Int32) (rc : Int32) (rk : Int32) (ca_d1 : ClassId) (fa_d1 : Nat → Int32) (ca_d2 : ClassId) (fa_d2 : Nat → Int32) (ca_d3 : ClassId) (fa_d3 : Nat → Int32) (hB_uw : ((0 : Int) ≤ (uw).toInt ∧ (uw).toInt ≤ (104 : Int))) (hB_uo : ((0 : Int) ≤ (uo).toInt ∧ (uo).toInt ≤ (8 : Int))) (hB_up : ((0 : Int) ≤ (up).toInt ∧ (up).toInt ≤ (1 : Int))) (hB_rl : ((0 : Int) ≤ (rl).toInt ∧ (rl).toInt ≤ (96 : Int))) (hB_rc : ((0 : Int) ≤ (rc).toInt ∧ (rc).toInt ≤ (6 : Int))) (hB_rk : ((0 : Int) ≤ (rk).toInt ∧ (rk).toInt ≤ (96 : Int))) (hI_a_d3 : ∀ j : Nat, ((0 : Int) ≤ (fa_d3 j).toInt ∧ (fa_d3 j).toInt ≤ (96 : Int))) : Met l yX8_settle u_s_X8_settle ({ frames := 1, cells := 0, slots := 0, locals := 22 }) (va_Pc [.ref h0, .int p1] (z_C (dC, dI) vwCl [(h0, .inr (8, [.ref a_tp, .ref a_t1, .ref a_t2, .ref a_w1, .int uw, .int uo, .int up, .ref a_dr, h0_8])), (a_w1, .inl (ca_w1, 104, .inl fa_w1)), (a_dr, .inr (7, [.ref a_d1, .ref a_d2, .ref a_d3, .int rl, .int rc, .int rk])), (a_d1, .inl (ca_d1, 96, .inl fa_d1)), (a_d2, .inl (ca_d2, 96, .inl fa_d2)), (a_d3, .inl (ca_d3, 7, .inl fa_d3))] [(ca_w1, .int), (ca_d1, .int), (ca_d2, .int), (ca_d3, .int)] sz)) (va_Qv (fun (_ : Unit) => True) (fun (_ : Unit) (t : State) => ∃ (n_h0_waits : Int32), ∃ (n_a_dr_length : Int32), ∃ (g_a_d1 : Nat → Int32), ∃ (g_a_d2 : Nat → Int32), ((0 : Int) ≤ (n_h0_waits).toInt ∧ (n_h0_waits).toInt ≤ (104 : Int)) ∧ ((0 : Int) ≤ (n_a_dr_length).toInt ∧ (n_a_dr_length).toInt ≤ (96 : Int)) ∧ va_P (dC, dI) vwCl [(h0, .inr (8, [.ref a_tp, .ref a_t1, .ref a_t2, .ref a_w1, .int n_h0_waits, .int uo, .int up, .ref a_dr, h0_8])), (a_w1, .inl (ca_w1, 104, .inl fa_w1)), (a_dr, .inr (7, [.ref a_d1, .ref a_d2, .ref a_d3, .int n_a_dr_length, .int rc, .int rk])), (a_d1, .inl (ca_d1, 96, .inl g_a_d1)), (a_d2, .inl (ca_d2, 96, .inl g_a_d2)), (a_d3, .inl (ca_d3, 7, .inl fa_d3))] t.heap ∧ va_K (dC, dI) vwCl [] t ∧ va_D (va_A [(h0, .inr (8, [.ref a_tp, .ref a_t1, .ref a_t2, .ref a_w1, .int uw, .int uo, .int up, .ref a_dr, h0_8])), (a_w1, .inl (ca_w1, 104, .inl fa_w1)), (a_dr, .inr (7, [.ref a_d1, .ref a_d2, .ref a_d3, .int rl, .int rc, .int rk])), (a_d1, .inl (ca_d1, 96, .inl fa_d1)), (a_d2, .inl (ca_d2, 96, .inl fa_d2)), (a_d3, .inl (ca_d3, 7, .inl fa_d3))] sz) [(h0, .inr (8, [.ref a_tp, .ref a_t1, .ref a_t2, .ref a_w1, .int n_h0_waits, .int uo, .int up, .ref a_dr, h0_8])), (a_w1, .inl (ca_w1, 104, .inl fa_w1)), (a_dr, .inr (7, [.ref a_d1, .ref a_d2, .ref a_d3, .int n_a_dr_length, .int rc, .int rk])), (a_d1, .inl (ca_d1, 96, .inl g_a_d1)), (a_d2, .inl (ca_d2, 96, .inl g_a_d2)), (a_d3, .inl (ca_d3, 7, .inl fa_d3))]) (va_A [(h0, .inr (8, [.ref a_tp, .ref a_t1, .ref a_t2, .ref a_w1, .int uw, .int uo, .int up, .ref a_dr, h0_8])), (a_w1, .inl (ca_w1, 104, .inl fa_w1)), (a_dr, .inr (7, [.ref a_d1, .ref a_d2, .ref a_d3, .int rl, .int rc, .int rk])), (a_d1, .inl (ca_d1, 96, .inl fa_d1)), (a_d2, .inl (ca_d2, 96, .inl fa_d2)), (a_d3, .inl (ca_d3, 7, .inl fa_d3))] sz)) 0 0 (va_A [(h0, .inr (8, [.ref a_tp, .ref a_t1, .ref a_t2, .ref a_w1, .int uw, .int uo, .int up, .ref a_dr, h0_8])), (a_w1, .inl (ca_w1, 104, .inl fa_w1)), (a_dr, .inr (7, [.ref a_d1, .ref a_d2, .ref a_d3, .int rl, .int rc, .int rk])), (a_d1, .inl (ca_d1, 96, .inl fa_d1)), (a_d2, .inl (ca_d2, 96, .inl fa_d2)), (a_d3, .inl (ca_d3, 7, .inl fa_d3))] sz) := by
  refine Met.ofW (cc := cX8_settle) (maxL := 2) (ret := none) (by decide) rfl ?_
  intro p e s m args below meth c s₁ B hml hv
  obtain ⟨rfl, hsz, hP, hK, hD0⟩ := hv
  have hx := B.exec
  have hb := B.bytes
  have hr := B.returns
  have hts := atoms_spec (ws := u_s_X8_settle) B.pre
  have hown : s.vm.findClass RX8 = some m.cls := findClass_of_methodNamed B.named
  have hlocks := B.notSynchronized
  subst hsz
  have hD := hD0.self (sz := s.heap.size)
  generalize hAe : va_A [(h0, .inr (8, [.ref a_tp, .ref a_t1, .ref a_t2, .ref a_w1, .int uw, .int uo, .int up, .ref a_dr, h0_8])), (a_w1, .inl (ca_w1, 104, .inl fa_w1)), (a_dr, .inr (7, [.ref a_d1, .ref a_d2, .ref a_d3, .int rl, .int rc, .int rk])), (a_d1, .inl (ca_d1, 96, .inl fa_d1)), (a_d2, .inl (ca_d2, 96, .inl fa_d2)), (a_d3, .inl (ca_d3, 7, .inl fa_d3))] s.heap.size = A at hD ⊢
  have hA : ∀ q : Nat, s.heap.size ≤ q → A q := fun q h => by rw [← hAe]; exact Or.inr h
  have hS : va_S A s.heap s.heap [] := va_S.rf
  have hP : va_P (dC, dI) vwCl [(h0, .inr (8, [.ref a_tp, .ref a_t1, .ref a_t2, .ref a_w1, .int uw, .int uo, .int up, .ref a_dr, h0_8])), (a_w1, .inl (ca_w1, 104, .inl fa_w1)), (a_dr, .inr (7, [.ref a_d1, .ref a_d2, .ref a_d3, .int rl, .int rc, .int rk])), (a_d1, .inl (ca_d1, 96, .inl fa_d1)), (a_d2, .inl (ca_d2, 96, .inl fa_d2)), (a_d3, .inl (ca_d3, 7, .inl fa_d3))] s.heap := hP
  have w__fieldLink_RX8_23_ShellHeap_RulesReader_waits_I_ := hts (.fieldLink RX8 23 "ShellHeap$RulesReader" "waits" "I") (z_mc (z_ml z_m0))
  have hiX8 := show ∀ w ∈ u_ws RX8 TX8 9, w ∈ u_s_X8_settle from fun w h => z_mc (z_mr (z_ml h))
  have w__fieldLink_RX8_35_ShellHeap_RulesReader_draft_LShellHeap_Rules_ := hts (.fieldLink RX8 35 "ShellHeap$RulesReader" "draft" "LShellHeap$Rules;") (z_mc (z_ml z_m7))
  have krr_p1 := z_rng p1
  have hl := lv_entry ([.ref h0, .int p1]) (n := 2) (Nat.le_of_ble_eq_true rfl)
  rw [lg_entry_eq]
  generalize (lg_sl ([.ref h0, .int p1]) ++ List.replicate (2 - (lg_sl ([.ref h0, .int p1])).length) Slot.unset).toArray = ls at hl ⊢
  have hl : lv_has ls 2 [(0, .ref h0), (1, .int p1)] := hl
  refine z_nameQ (fun QQ hQQ => ?_)
  have loop_1 : ∀ (n_2 : Nat) (v_4 : Int32) (v_5 : Int32) (f_6 : Nat → Int32) (f_7 : Nat → Int32) (H : Heap) (locs : List Loc) (ls : Array Slot), ((v_4).toInt + 1).toNat < n_2 → (((0 : Int) ≤ (v_4).toInt ∧ (v_4).toInt ≤ (104 : Int))) → (((0 : Int) ≤ (v_5).toInt ∧ (v_5).toInt ≤ (96 : Int))) → va_P (dC, dI) vwCl [(h0, .inr (8, [.ref a_tp, .ref a_t1, .ref a_t2, .ref a_w1, .int v_4, .int uo, .int up, .ref a_dr, h0_8])), (a_w1, .inl (ca_w1, 104, .inl fa_w1)), (a_dr, .inr (7, [.ref a_d1, .ref a_d2, .ref a_d3, .int v_5, .int rc, .int rk])), (a_d1, .inl (ca_d1, 96, .inl f_6)), (a_d2, .inl (ca_d2, 96, .inl f_7)), (a_d3, .inl (ca_d3, 7, .inl fa_d3))] H → va_D A [(h0, .inr (8, [.ref a_tp, .ref a_t1, .ref a_t2, .ref a_w1, .int v_4, .int uo, .int up, .ref a_dr, h0_8])), (a_w1, .inl (ca_w1, 104, .inl fa_w1)), (a_dr, .inr (7, [.ref a_d1, .ref a_d2, .ref a_d3, .int v_5, .int rc, .int rk])), (a_d1, .inl (ca_d1, 96, .inl f_6)), (a_d2, .inl (ca_d2, 96, .inl f_7)), (a_d3, .inl (ca_d3, 7, .inl fa_d3))] → va_S A s.heap H locs → lv_has ls 2 [(0, .ref h0), (1, .int p1)] → W p l e ({ frames := 1, cells := 0, slots := 0, locals := 22 } : Room) s m ([.ref h0, .int p1] : List Value).toArray below meth c H locs 0 0 QQ (F0 m 0 ls []) := by
    intro n_2
    induction n_2 with
    | zero => intro v_4 v_5 f_6 f_7 H locs ls hm; exact absurd hm (Nat.not_lt_zero _)
    | succ n_2 ih_3 =>
      intro v_4 v_5 f_6 f_7 H locs ls hm hF_8 hF_9 hP hD hS hl
      refine lv_aload_n hx hb dX8_settle_0 rfl (lv_at hl 0 rfl) ?_
      refine va_get (D := (dC, dI)) (ci := 8) (v := .int v_4) (C := RX8) (T := TX8) (N := 9) hx hb hts hiX8 hown hK hP 0 rfl rfl 4 (by decide) w__fieldLink_RX8_23_ShellHeap_RulesReader_waits_I_ (fun _ h9 => h9) rfl dX8_settle_1 ?_
      refine lv_if_le (tgt := 43) hx hb dX8_settle_4 (by decide) (fun c_10 => ?_) (fun c_10 => ?_)
      · have k_11 : (v_4).toInt ≤ (0 : Int) := z_le c_10
        obtain rfl : v_4 = 0 := z_eq' (show (v_4).toInt = (0 : Int) by omega)
        refine z_backQ hQQ ?_
        have hP9 := hP
        have hD9 := hD
        have hK9 := hK.sub (tys' := []) [] rfl
        refine W.widen (k := 0) (n := 0) (Nat.le_of_ble_eq_true rfl) (Nat.le_of_ble_eq_true rfl) ?_
        exact W.vret hx hb hr (fun t ht hW => ⟨⟨(), rfl, trivial, ⟨0, v_5, f_6, f_7, (by decide), hF_9, by rw [ht]; exact hP9, va_K.moved hW.alike hK9, hD9⟩⟩, hS.F ht⟩) hS.2.2 dX8_settle_43
      · have k_13 : (v_4).toInt > (0 : Int) := z_nle c_10
        refine lv_aload_n hx hb dX8_settle_7 rfl (lv_at hl 0 rfl) ?_
        obtain ⟨hPc, hDc⟩ := z_sub2 (ws' := [(h0, .inr (8, [.ref a_tp, .ref a_t1, .ref a_t2, .ref a_w1, .int v_4, .int uo, .int up, .ref a_dr, h0_8])), (a_w1, .inl (ca_w1, 104, .inl fa_w1))]) hP hD [0, 1] (by decide) rfl
        have hKc := hK.sub (tys' := [(ca_w1, .int)]) [0] rfl
        have hFc := va_free (ws := []) (wc := []) (z_D0 _) hS hA [] rfl
        refine va_calli (va_runV (As := []) (rest := []) ⟨hx, hb, hml, hown, hts⟩ (s_X8_lastWaiting l dC dI H.size h0 a_tp a_t1 a_t2 a_w1 v_4 uo up a_dr h0_8 ca_w1 fa_w1 hF_8) (cwV 0 hts gw_s_X8_settle_s_X8_lastWaiting_150 rfl rfl rfl (by decide +kernel) ⟨Nat.le_of_ble_eq_true rfl, Nat.le_of_ble_eq_true rfl⟩) ⟨z_blind, va_recv hKc hPc (ci := 8) (q0 := 0) rfl rfl, z_pre hPc hKc hDc⟩ rfl rfl hl.1 rfl (lv_room (Nat.le_of_ble_eq_true rfl)) dX8_settle_8 ⟨Nat.le_of_ble_eq_true rfl, Nat.le_of_ble_eq_true rfl⟩) hS (fun q _ h => hFc q h) hFc (fun r_15 u t H_14 locs ht hvm hw_16 hB hz1 hk1 hS => ?_)
        replace hP := z_pure hP hk1
        clear hPc hDc hKc
        obtain ⟨hPc, hDc⟩ := z_sub2 (ws' := []) hP hD [] (by decide) rfl
        have hKc := hK.sub (tys' := []) [] rfl
        have hFc := va_free (ws := []) (wc := []) (z_D0 _) hS hA [] rfl
        refine va_calli (va_runS (As := [.int r_15]) (rest := []) ⟨hx, hb, hml, hown, hts⟩ (s_X8_tightness l dC dI H_14.size r_15) (va_cwS 1 hts gw_s_X8_settle_s_X8_tightness_103 rfl rfl rfl (by decide +kernel) ⟨Nat.le_of_ble_eq_true rfl, Nat.le_of_ble_eq_true rfl⟩) ⟨z_blind, z_pre hPc hKc hDc⟩ rfl rfl hl.1 rfl (lv_room (Nat.le_of_ble_eq_true rfl)) dX8_settle_11 ⟨Nat.le_of_ble_eq_true rfl, Nat.le_of_ble_eq_true rfl⟩) hS (fun q _ h => hFc q h) hFc (fun r_18 u t H_17 locs ht hvm hw_19 hB hz1 hk1 hS => ?_)
        replace hP := z_pure hP hk1
        clear hPc hDc hKc
        refine lv_iload_n hx hb dX8_settle_14 rfl (lv_at hl 1 rfl) ?_
        refine lv_icmp_lt (tgt := 43) hx hb dX8_settle_15 (by decide) (fun c_20 => ?_) (fun c_20 => ?_)
        · have k_21 : (r_18).toInt < (p1).toInt := z_lt c_20
          refine z_backQ hQQ ?_
          have hP9 := hP
          have hD9 := hD
          have hK9 := hK.sub (tys' := []) [] rfl
          refine W.widen (k := 0) (n := 0) (Nat.le_of_ble_eq_true rfl) (Nat.le_of_ble_eq_true rfl) ?_
          exact W.vret hx hb hr (fun t ht hW => ⟨⟨(), rfl, trivial, ⟨v_4, v_5, f_6, f_7, hF_8, hF_9, by rw [ht]; exact hP9, va_K.moved hW.alike hK9, hD9⟩⟩, hS.F ht⟩) hS.2.2 dX8_settle_43
        · have k_22 : (r_18).toInt ≥ (p1).toInt := z_nlt c_20
          refine lv_aload_n hx hb dX8_settle_18 rfl (lv_at hl 0 rfl) ?_
          refine va_get (D := (dC, dI)) (ci := 8) (v := .ref a_dr) (C := RX8) (T := TX8) (N := 9) hx hb hts hiX8 hown hK hP 0 rfl rfl 7 (by decide) w__fieldLink_RX8_35_ShellHeap_RulesReader_draft_LShellHeap_Rules_ (fun _ h9 => h9) rfl dX8_settle_19 ?_
          refine lv_aload_n hx hb dX8_settle_22 rfl (lv_at hl 0 rfl) ?_
          obtain ⟨hPc, hDc⟩ := z_sub2 (ws' := [(h0, .inr (8, [.ref a_tp, .ref a_t1, .ref a_t2, .ref a_w1, .int v_4, .int uo, .int up, .ref a_dr, h0_8])), (a_w1, .inl (ca_w1, 104, .inl fa_w1))]) hP hD [0, 1] (by decide) rfl
          have hKc := hK.sub (tys' := [(ca_w1, .int)]) [0] rfl
          have hFc := va_free (ws := []) (wc := []) (z_D0 _) hS hA [] rfl
          refine va_calli (va_runV (As := []) (rest := [.ref a_dr]) ⟨hx, hb, hml, hown, hts⟩ (s_X8_lastWaiting l dC dI H_17.size h0 a_tp a_t1 a_t2 a_w1 v_4 uo up a_dr h0_8 ca_w1 fa_w1 hF_8) (cwV 0 hts gw_s_X8_settle_s_X8_lastWaiting_150 rfl rfl rfl (by decide +kernel) ⟨Nat.le_of_ble_eq_true rfl, Nat.le_of_ble_eq_true rfl⟩) ⟨z_blind, va_recv hKc hPc (ci := 8) (q0 := 0) rfl rfl, z_pre hPc hKc hDc⟩ rfl rfl hl.1 rfl (lv_room (Nat.le_of_ble_eq_true rfl)) dX8_settle_23 ⟨Nat.le_of_ble_eq_true rfl, Nat.le_of_ble_eq_true rfl⟩) hS (fun q _ h => hFc q h) hFc (fun r_24 u t H_23 locs ht hvm hw_25 hB hz1 hk1 hS => ?_)
          replace hP := z_pure hP hk1
          clear hPc hDc hKc
          refine lv_iconst (v := 0) hx hb dX8_settle_26 (by decide) ?_
          obtain ⟨hPc, hDc, hFc⟩ := z_sub3 (ws' := [(a_dr, .inr (7, [.ref a_d1, .ref a_d2, .ref a_d3, .int v_5, .int rc, .int rk])), (a_d1, .inl (ca_d1, 96, .inl f_6)), (a_d2, .inl (ca_d2, 96, .inl f_7))]) hP hD hS hA [2, 3, 4] (by decide) rfl
          have hKc := hK.sub (tys' := [(ca_d1, .int), (ca_d2, .int)]) [1, 2] rfl
          refine va_callv (va_runV (As := [.int r_24, .int 0]) (rest := []) ⟨hx, hb, hml, hown, hts⟩ (s_X7_add l dC dI H_23.size a_dr r_24 0 a_d1 a_d2 (.ref a_d3) v_5 (.int rc) (.int rk) ca_d1 f_6 ca_d2 f_7 hF_9) (cwV 2 hts gw_s_X8_settle_s_X7_add_146 rfl rfl rfl (by decide +kernel) ⟨Nat.le_of_ble_eq_true rfl, Nat.le_of_ble_eq_true rfl⟩) ⟨z_blind, va_recv hKc hPc (ci := 7) (q0 := 0) rfl rfl, z_pre hPc hKc hDc⟩ rfl rfl hl.1 rfl (lv_room (Nat.le_of_ble_eq_true rfl)) dX8_settle_27 ⟨Nat.le_of_ble_eq_true rfl, Nat.le_of_ble_eq_true rfl⟩) hS (fun q _ h => hFc q h) hFc (fun u t H_26 locs ht hvm hw_28 hB hz1 hk1 hS => ?_)
          obtain ⟨n_h0_length_29, g_h1_30, g_h2_31, hp_32, hP1, hK1, hD1⟩ := hB
          rw [ht] at hP1
          have hK1 := va_K.moved hvm.symm hK1
          obtain ⟨hP, hD⟩ := z_ap_3 (va_join (wr := [(h0, .inr (8, [.ref a_tp, .ref a_t1, .ref a_t2, .ref a_w1, .int v_4, .int uo, .int up, .ref a_dr, h0_8])), (a_w1, .inl (ca_w1, 104, .inl fa_w1)), (a_d3, .inl (ca_d3, 7, .inl fa_d3))]) hP hD [2, 3, 4] [0, 1, 5] rfl rfl (by decide) (by decide) hk1 hFc hP1 hD1)
          clear hPc hDc hKc
          refine lv_aload_n hx hb dX8_settle_30 rfl (lv_at hl 0 rfl) ?_
          refine lv_dup hx hb dX8_settle_31 rfl ?_
          refine va_get (D := (dC, dI)) (ci := 8) (v := .int v_4) (C := RX8) (T := TX8) (N := 9) hx hb hts hiX8 hown hK hP 0 rfl rfl 4 (by decide) w__fieldLink_RX8_23_ShellHeap_RulesReader_waits_I_ (fun _ h9 => h9) rfl dX8_settle_32 ?_
          refine lv_iconst (v := 1) hx hb dX8_settle_35 (by decide) ?_
          refine lv_isub hx hb dX8_settle_36 ?_
          refine lv_topi (fun z_33 ez_33 => ?_)
          have kz_33 : (z_33).toInt = (v_4).toInt - (1 : Int) := by rw [ez_33]; exact z_sub (a := (v_4).toInt) (b := (1 : Int)) rfl rfl (z_mlo hF_8.1 (by decide)) (z_mhi hF_8.2 (by decide))
          refine va_put (D := (dC, dI)) (ci := 8) (v := .int z_33) (ty := .int) (C := RX8) (T := TX8) (N := 9) hx hb hts hiX8 tyX8 tyX8_ok nmX8 hown hK hP hD hS 0 rfl rfl 4 (by decide) w__fieldLink_RX8_23_ShellHeap_RulesReader_waits_I_ (fun _ h9 => h9) rfl (by decide +kernel) rfl rfl (Nat.le_of_ble_eq_true rfl) dX8_settle_37 (fun H_34 locs hP hD hS => ?_)
          obtain ⟨hP, hD⟩ := z_s_0_4 hP hD
          refine lv_goto (tgt := 0) hx hb dX8_settle_40 (by decide) ?_
          exact ih_3 z_33 n_h0_length_29 g_h1_30 g_h2_31 _ _ _ (show ((z_33).toInt + 1).toNat < n_2 by omega) (show ((0 : Int) ≤ (z_33).toInt ∧ (z_33).toInt ≤ (104 : Int)) by omega) (show ((0 : Int) ≤ (n_h0_length_29).toInt ∧ (n_h0_length_29).toInt ≤ (96 : Int)) by omega) (hP.sub (ws' := [(h0, .inr (8, [.ref a_tp, .ref a_t1, .ref a_t2, .ref a_w1, .int z_33, .int uo, .int up, .ref a_dr, h0_8])), (a_w1, .inl (ca_w1, 104, .inl fa_w1)), (a_dr, .inr (7, [.ref a_d1, .ref a_d2, .ref a_d3, .int n_h0_length_29, .int rc, .int rk])), (a_d1, .inl (ca_d1, 96, .inl g_h1_30)), (a_d2, .inl (ca_d2, 96, .inl g_h2_31)), (a_d3, .inl (ca_d3, 7, .inl fa_d3))]) [0, 1, 3, 4, 5, 2] rfl) (hD.sub (ws' := [(h0, .inr (8, [.ref a_tp, .ref a_t1, .ref a_t2, .ref a_w1, .int z_33, .int uo, .int up, .ref a_dr, h0_8])), (a_w1, .inl (ca_w1, 104, .inl fa_w1)), (a_dr, .inr (7, [.ref a_d1, .ref a_d2, .ref a_d3, .int n_h0_length_29, .int rc, .int rk])), (a_d1, .inl (ca_d1, 96, .inl g_h1_30)), (a_d2, .inl (ca_d2, 96, .inl g_h2_31)), (a_d3, .inl (ca_d3, 7, .inl fa_d3))]) [0, 1, 3, 4, 5, 2] (by decide) rfl) hS (lv_sub hl [0, 1] rfl)
  exact loop_1 _ uw rl fa_d1 fa_d2 _ _ _ (Nat.lt_succ_self _) (show ((0 : Int) ≤ (uw).toInt ∧ (uw).toInt ≤ (104 : Int)) by omega) (show ((0 : Int) ≤ (rl).toInt ∧ (rl).toInt ≤ (96 : Int)) by omega) hP hD hS hl
