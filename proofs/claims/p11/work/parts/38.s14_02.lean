def u_s_X10_open_r : List Cond := .code yX10_open cX10_open 3 none :: ([.fieldLink RX10 15 "ShellHeap$Tape" "text" "I", .fieldLink RX10 22 "ShellHeap$Tape" "digitsJoin" "Z", .fieldLink RX10 26 "ShellHeap$Tape" "fed" "I", .fieldLink RX10 19 "ShellHeap$Tape" "at" "I", .fieldLink RX10 41 "ShellHeap$Tape" "faultSort" "I", .fieldLink RX10 44 "ShellHeap$Tape" "faultPlace" "I", .methodLink RX10 47 yX10_next, .instanceMethod yX10_next, .selects RX10 yX10_next yX10_next, .initialized RX10] ++ (wsX100 ++ (u_s_X10_next ++ [])))
theorem gd_s_X10_open_r : z_gd u_s_X10_open_r := z_gdc (by decide +kernel) (z_gda gdX10 (z_gda gd_s_X10_next (z_gd0)))
set_option maxRecDepth 20000 in
theorem gw_s_X10_open_r_s_X10_next_47 : GoodIn u_s_X10_open_r (wsV RX10 47 RX10 yX10_next u_s_X10_next) := z_gV (z_gr _ [7, 8, 9, 10] rfl (by decide +kernel)) (fun w h => ⟨z_mc (z_mr (z_mr (z_ml h))), gd_s_X10_next w h⟩)
set_option maxHeartbeats 4000000 in
set_option maxRecDepth 100000 in
theorem s_X10_open_r (l : Launch) (dC : Nat → ClassId) (dI : Nat → Nat → Nat) (sz : Nat) (h0 : Nat) (p1 : Int32) (h1 : Nat) (tt : Int32) (ta : Int32) (tj : Int32) (tf : Int32) (ts : Int32) (te : Int32) (to : Int32) (tg : Int32) (tx : Int32) (ty : Int32) (ch1 : ClassId) (fh1 : Nat → Int32) (hB_tt : ((0 : Int) ≤ (tt).toInt ∧ (tt).toInt ≤ (700 : Int))) (hB_ta : ((0 : Int) ≤ (ta).toInt ∧ (ta).toInt ≤ (700 : Int))) (hB_tf : ((0 : Int) ≤ (tf).toInt ∧ (tf).toInt ≤ (700 : Int))) (hB_ts : ((0 : Int) ≤ (ts).toInt ∧ (ts).toInt ≤ (700 : Int))) (hB_te : ((0 : Int) ≤ (te).toInt ∧ (te).toInt ≤ (700 : Int))) (hB_p1 : ((0 : Int) ≤ (p1).toInt ∧ (p1).toInt ≤ (700 : Int))) (hI_h1 : ∀ j : Nat, ((0 : Int) ≤ (fh1 j).toInt ∧ (fh1 j).toInt ≤ (255 : Int))) : Met l yX10_open u_s_X10_open_r ({ frames := 3, cells := 0, slots := 0, locals := 61 }) (va_Pc [.ref h0, .int p1, .int 0] (z_C (dC, dI) vwCl [(h0, .inr (10, [.ref h1, .int tt, .int ta, .int tj, .int tf, .int ts, .int te, .int to, .int tg, .int tx, .int ty])), (h1, .inl (ch1, 700, .inl fh1))] [(ch1, .int)] sz)) (va_Qv (fun (_ : Unit) => True) (fun (_ : Unit) (t : State) => ∃ (n_h0_at : Int32), ∃ (n_h0_start : Int32), ∃ (n_h0_end : Int32), ∃ (n_h0_sort : Int32), ∃ (n_h0_sign : Int32), ((0 : Int) ≤ (n_h0_at).toInt ∧ (n_h0_at).toInt ≤ (700 : Int)) ∧ ((0 : Int) ≤ (n_h0_start).toInt ∧ (n_h0_start).toInt ≤ (700 : Int)) ∧ ((0 : Int) ≤ (n_h0_end).toInt ∧ (n_h0_end).toInt ≤ (700 : Int)) ∧ va_P (dC, dI) vwCl [(h0, .inr (10, [.ref h1, .int p1, .int n_h0_at, .int 0, .int 0, .int n_h0_start, .int n_h0_end, .int n_h0_sort, .int n_h0_sign, .int 0, .int (-1)])), (h1, .inl (ch1, 700, .inl fh1))] t.heap ∧ va_K (dC, dI) vwCl [] t ∧ va_D (va_A [(h0, .inr (10, [.ref h1, .int tt, .int ta, .int tj, .int tf, .int ts, .int te, .int to, .int tg, .int tx, .int ty])), (h1, .inl (ch1, 700, .inl fh1))] sz) [(h0, .inr (10, [.ref h1, .int p1, .int n_h0_at, .int 0, .int 0, .int n_h0_start, .int n_h0_end, .int n_h0_sort, .int n_h0_sign, .int 0, .int (-1)])), (h1, .inl (ch1, 700, .inl fh1))]) (va_A [(h0, .inr (10, [.ref h1, .int tt, .int ta, .int tj, .int tf, .int ts, .int te, .int to, .int tg, .int tx, .int ty])), (h1, .inl (ch1, 700, .inl fh1))] sz)) 0 0 (va_A [(h0, .inr (10, [.ref h1, .int tt, .int ta, .int tj, .int tf, .int ts, .int te, .int to, .int tg, .int tx, .int ty])), (h1, .inl (ch1, 700, .inl fh1))] sz) := by
  refine Met.ofW (cc := cX10_open) (maxL := 3) (ret := none) (by decide) rfl ?_
  intro p e s m args below meth c s₁ B hml hv
  obtain ⟨rfl, hsz, hP, hK, hD0⟩ := hv
  have hx := B.exec
  have hb := B.bytes
  have hr := B.returns
  have hts := atoms_spec (ws := u_s_X10_open_r) B.pre
  have hown : s.vm.findClass RX10 = some m.cls := findClass_of_methodNamed B.named
  have hlocks := B.notSynchronized
  subst hsz
  have hD := hD0.self (sz := s.heap.size)
  generalize hAe : va_A [(h0, .inr (10, [.ref h1, .int tt, .int ta, .int tj, .int tf, .int ts, .int te, .int to, .int tg, .int tx, .int ty])), (h1, .inl (ch1, 700, .inl fh1))] s.heap.size = A at hD ⊢
  have hA : ∀ q : Nat, s.heap.size ≤ q → A q := fun q h => by rw [← hAe]; exact Or.inr h
  have hS : va_S A s.heap s.heap [] := va_S.rf
  have hP : va_P (dC, dI) vwCl [(h0, .inr (10, [.ref h1, .int tt, .int ta, .int tj, .int tf, .int ts, .int te, .int to, .int tg, .int tx, .int ty])), (h1, .inl (ch1, 700, .inl fh1))] s.heap := hP
  have w__fieldLink_RX10_15_ShellHeap_Tape_text_I_ := hts (.fieldLink RX10 15 "ShellHeap$Tape" "text" "I") (z_mc (z_ml z_m0))
  have hiX10 := show ∀ w ∈ u_ws RX10 TX10 11, w ∈ u_s_X10_open_r from fun w h => z_mc (z_mr (z_ml h))
  have w__fieldLink_RX10_22_ShellHeap_Tape_digitsJoin_Z_ := hts (.fieldLink RX10 22 "ShellHeap$Tape" "digitsJoin" "Z") (z_mc (z_ml z_m1))
  have w__fieldLink_RX10_26_ShellHeap_Tape_fed_I_ := hts (.fieldLink RX10 26 "ShellHeap$Tape" "fed" "I") (z_mc (z_ml z_m2))
  have w__fieldLink_RX10_19_ShellHeap_Tape_at_I_ := hts (.fieldLink RX10 19 "ShellHeap$Tape" "at" "I") (z_mc (z_ml z_m3))
  have w__fieldLink_RX10_41_ShellHeap_Tape_faultSort_I_ := hts (.fieldLink RX10 41 "ShellHeap$Tape" "faultSort" "I") (z_mc (z_ml z_m4))
  have w__fieldLink_RX10_44_ShellHeap_Tape_faultPlace_I_ := hts (.fieldLink RX10 44 "ShellHeap$Tape" "faultPlace" "I") (z_mc (z_ml z_m5))
  have hl := lv_entry ([.ref h0, .int p1, .int 0]) (n := 3) (Nat.le_of_ble_eq_true rfl)
  rw [lg_entry_eq]
  generalize (lg_sl ([.ref h0, .int p1, .int 0]) ++ List.replicate (3 - (lg_sl ([.ref h0, .int p1, .int 0])).length) Slot.unset).toArray = ls at hl ⊢
  have hl : lv_has ls 3 [(0, .ref h0), (1, .int p1), (2, .int 0)] := hl
  refine lv_aload_n hx hb dX10_open_0 rfl (lv_at hl 0 rfl) ?_
  refine lv_iload_n hx hb dX10_open_1 rfl (lv_at hl 1 rfl) ?_
  refine va_put (D := (dC, dI)) (ci := 10) (v := .int p1) (ty := .int) (C := RX10) (T := TX10) (N := 11) hx hb hts hiX10 tyX10 tyX10_ok nmX10 hown hK hP hD hS 0 rfl rfl 1 (by decide) w__fieldLink_RX10_15_ShellHeap_Tape_text_I_ (fun _ h9 => h9) rfl (by decide +kernel) rfl rfl (Nat.le_of_ble_eq_true rfl) dX10_open_2 (fun H_1 locs hP hD hS => ?_)
  obtain ⟨hP, hD⟩ := z_s_0_1 hP hD
  refine lv_aload_n hx hb dX10_open_5 rfl (lv_at hl 0 rfl) ?_
  refine lv_iload_n hx hb dX10_open_6 rfl (lv_at hl 2 rfl) ?_
  refine va_put (D := (dC, dI)) (ci := 10) (v := .int 0) (ty := .boolean) (C := RX10) (T := TX10) (N := 11) hx hb hts hiX10 tyX10 tyX10_ok nmX10 hown hK hP hD hS 0 rfl rfl 3 (by decide) w__fieldLink_RX10_22_ShellHeap_Tape_digitsJoin_Z_ (fun _ h9 => h9) rfl (by decide +kernel) rfl rfl (Nat.le_of_ble_eq_true rfl) dX10_open_7 (fun H_2 locs hP hD hS => ?_)
  obtain ⟨hP, hD⟩ := z_s_0_3 hP hD
  refine lv_aload_n hx hb dX10_open_10 rfl (lv_at hl 0 rfl) ?_
  refine lv_iconst (v := 0) hx hb dX10_open_11 (by decide) ?_
  refine va_put (D := (dC, dI)) (ci := 10) (v := .int 0) (ty := .int) (C := RX10) (T := TX10) (N := 11) hx hb hts hiX10 tyX10 tyX10_ok nmX10 hown hK hP hD hS 0 rfl rfl 4 (by decide) w__fieldLink_RX10_26_ShellHeap_Tape_fed_I_ (fun _ h9 => h9) rfl (by decide +kernel) rfl rfl (Nat.le_of_ble_eq_true rfl) dX10_open_12 (fun H_3 locs hP hD hS => ?_)
  obtain ⟨hP, hD⟩ := z_s_0_4 hP hD
  refine lv_aload_n hx hb dX10_open_15 rfl (lv_at hl 0 rfl) ?_
  refine lv_iconst (v := 0) hx hb dX10_open_16 (by decide) ?_
  refine va_put (D := (dC, dI)) (ci := 10) (v := .int 0) (ty := .int) (C := RX10) (T := TX10) (N := 11) hx hb hts hiX10 tyX10 tyX10_ok nmX10 hown hK hP hD hS 0 rfl rfl 2 (by decide) w__fieldLink_RX10_19_ShellHeap_Tape_at_I_ (fun _ h9 => h9) rfl (by decide +kernel) rfl rfl (Nat.le_of_ble_eq_true rfl) dX10_open_17 (fun H_4 locs hP hD hS => ?_)
  obtain ⟨hP, hD⟩ := z_s_0_2 hP hD
  refine lv_aload_n hx hb dX10_open_20 rfl (lv_at hl 0 rfl) ?_
  refine lv_iconst (v := 0) hx hb dX10_open_21 (by decide) ?_
  refine va_put (D := (dC, dI)) (ci := 10) (v := .int 0) (ty := .int) (C := RX10) (T := TX10) (N := 11) hx hb hts hiX10 tyX10 tyX10_ok nmX10 hown hK hP hD hS 0 rfl rfl 9 (by decide) w__fieldLink_RX10_41_ShellHeap_Tape_faultSort_I_ (fun _ h9 => h9) rfl (by decide +kernel) rfl rfl (Nat.le_of_ble_eq_true rfl) dX10_open_22 (fun H_5 locs hP hD hS => ?_)
  obtain ⟨hP, hD⟩ := z_s_0_9 hP hD
  refine lv_aload_n hx hb dX10_open_25 rfl (lv_at hl 0 rfl) ?_
  refine lv_iconst (v := (-1)) hx hb dX10_open_26 (by decide) ?_
  refine va_put (D := (dC, dI)) (ci := 10) (v := .int (-1)) (ty := .int) (C := RX10) (T := TX10) (N := 11) hx hb hts hiX10 tyX10 tyX10_ok nmX10 hown hK hP hD hS 0 rfl rfl 10 (by decide) w__fieldLink_RX10_44_ShellHeap_Tape_faultPlace_I_ (fun _ h9 => h9) rfl (by decide +kernel) rfl rfl (Nat.le_of_ble_eq_true rfl) dX10_open_27 (fun H_6 locs hP hD hS => ?_)
  obtain ⟨hP, hD⟩ := z_s_0_10 hP hD
  refine lv_aload_n hx hb dX10_open_30 rfl (lv_at hl 0 rfl) ?_
  have hPc := hP
  have hDc := hD
  have hKc := hK
  have hFc := z_freeI hD hS hA
  refine va_callv (va_runV (As := []) (rest := []) ⟨hx, hb, hml, hown, hts⟩ (s_X10_next l dC dI H_6.size h0 h1 p1 0 0 0 ts te to tg 0 (-1) ch1 fh1 hB_p1 (by decide) (by decide) hB_ts hB_te hI_h1) (cwV 0 hts gw_s_X10_open_r_s_X10_next_47 rfl rfl rfl (by decide +kernel) ⟨Nat.le_of_ble_eq_true rfl, Nat.le_of_ble_eq_true rfl⟩) ⟨z_blind, va_recv hKc hPc (ci := 10) (q0 := 0) rfl rfl, z_pre hPc hKc hDc⟩ rfl rfl hl.1 rfl (lv_room (Nat.le_of_ble_eq_true rfl)) dX10_open_31 ⟨Nat.le_of_ble_eq_true rfl, Nat.le_of_ble_eq_true rfl⟩) hS (fun q _ h => hFc q h) hFc (fun u t H_7 locs ht hvm hw_9 hB hz1 hk1 hS => ?_)
  obtain ⟨n_h0_at_10, n_h0_start_11, n_h0_end_12, n_h0_sort_13, n_h0_sign_14, hp_15, hp_16, hp_17, hP1, hK1, hD1⟩ := hB
  rw [ht] at hP1
  have hK1 := va_K.moved hvm.symm hK1
  obtain ⟨hP, hD⟩ := z_ap_0 (va_join (wr := []) hP hD [0, 1] [] rfl rfl (by decide) (by decide) hk1 hFc hP1 hD1)
  clear hPc hDc hKc
  have hP9 := hP
  have hD9 := hD
  have hK9 := hK.sub (tys' := []) [] rfl
  refine W.widen (k := 0) (n := 0) (Nat.le_of_ble_eq_true rfl) (Nat.le_of_ble_eq_true rfl) ?_
  exact W.vret hx hb hr (fun t ht hW => ⟨⟨(), rfl, trivial, ⟨n_h0_at_10, n_h0_start_11, n_h0_end_12, n_h0_sort_13, n_h0_sign_14, hp_15, hp_16, hp_17, by rw [ht]; exact hP9, va_K.moved hW.alike hK9, hD9⟩⟩, hS.F ht⟩) hS.2.2 dX10_open_34
def u_s_X10_numberFrom : List Cond := .code yX10_numberFrom cX10_numberFrom 4 (some .int) :: ([.fieldLink RX10 32 "ShellHeap$Tape" "end" "I", .methodLink RX10 50 yX10_byteAt, .instanceMethod yX10_byteAt, .selects RX10 yX10_byteAt yX10_byteAt, .initialized RX10, .constant RX10 83 (1000000), .methodLink RX10 84 Lib.Math.min.name, .static Lib.Math.min.name, .initialized "java/lang/Math", .code Lib.Math.min.name Lib.Math.min.code 2 (some .int)] ++ (wsX100 ++ (u_s_X10_byteAt ++ [])))
theorem gd_s_X10_numberFrom : z_gd u_s_X10_numberFrom := z_gdc (by decide +kernel) (z_gda gdX10 (z_gda gd_s_X10_byteAt (z_gd0)))
set_option maxRecDepth 20000 in
theorem gw_s_X10_numberFrom_s_X10_byteAt_50 : GoodIn u_s_X10_numberFrom (wsV RX10 50 RX10 yX10_byteAt u_s_X10_byteAt) := z_gV (z_gr _ [2, 3, 4, 5] rfl (by decide +kernel)) (fun w h => ⟨z_mc (z_mr (z_mr (z_ml h))), gd_s_X10_byteAt w h⟩)
set_option maxHeartbeats 4000000 in
set_option maxRecDepth 100000 in
theorem s_X10_numberFrom (l : Launch) (dC : Nat → ClassId) (dI : Nat → Nat → Nat) (sz : Nat) (h0 : Nat) (p1 : Int32) (h1 : Nat) (tt : Int32) (h0_2 : Value) (h0_3 : Value) (h0_4 : Value) (h0_5 : Value) (te : Int32) (h0_7 : Value) (h0_8 : Value) (h0_9 : Value) (h0_10 : Value) (ch1 : ClassId) (fh1 : Nat → Int32) (hB_tt : ((0 : Int) ≤ (tt).toInt ∧ (tt).toInt ≤ (700 : Int))) (hB_te : ((0 : Int) ≤ (te).toInt ∧ (te).toInt ≤ (700 : Int))) (hB_p1 : ((0 : Int) ≤ (p1).toInt ∧ (p1).toInt ≤ (701 : Int))) (hI_h1 : ∀ j : Nat, ((0 : Int) ≤ (fh1 j).toInt ∧ (fh1 j).toInt ≤ (255 : Int))) : Met l yX10_numberFrom u_s_X10_numberFrom ({ frames := 1, cells := 0, slots := 0, locals := 21 }) (va_Pc [.ref h0, .int p1] (z_C (dC, dI) vwCl [(h0, .inr (10, [.ref h1, .int tt, h0_2, h0_3, h0_4, h0_5, .int te, h0_7, h0_8, h0_9, h0_10])), (h1, .inl (ch1, 700, .inl fh1))] [(ch1, .int)] sz)) (va_Qi (fun (r : Int32) (_ : Unit) => True) (fun (_ : Unit) (_ : State) => True) (va_A [] sz)) 0 0 (va_A [] sz) := by
  refine Met.ofW (cc := cX10_numberFrom) (maxL := 4) (ret := (some .int)) (by decide) rfl ?_
  intro p e s m args below meth c s₁ B hml hv
  obtain ⟨rfl, hsz, hP, hK, hD0⟩ := hv
  have hx := B.exec
  have hb := B.bytes
  have hr := B.returns
  have hts := atoms_spec (ws := u_s_X10_numberFrom) B.pre
  have hown : s.vm.findClass RX10 = some m.cls := findClass_of_methodNamed B.named
  have hlocks := B.notSynchronized
  subst hsz
  have hD := hD0
  generalize hAe : va_A [] s.heap.size = A
  have hA : ∀ q : Nat, s.heap.size ≤ q → A q := fun q h => by rw [← hAe]; exact Or.inr h
  have hS : va_S A s.heap s.heap [] := va_S.rf
  have hP : va_P (dC, dI) vwCl [(h0, .inr (10, [.ref h1, .int tt, h0_2, h0_3, h0_4, h0_5, .int te, h0_7, h0_8, h0_9, h0_10])), (h1, .inl (ch1, 700, .inl fh1))] s.heap := hP
  have w__fieldLink_RX10_32_ShellHeap_Tape_end_I_ := hts (.fieldLink RX10 32 "ShellHeap$Tape" "end" "I") (z_mc (z_ml z_m0))
  have hiX10 := show ∀ w ∈ u_ws RX10 TX10 11, w ∈ u_s_X10_numberFrom from fun w h => z_mc (z_mr (z_ml h))
  have w__constant_RX10_83_1000000_ := hts (.constant RX10 83 (1000000)) (z_mc (z_ml z_m5))
  have w__methodLink_RX10_84_Lib_Math_min_name := hts (.methodLink RX10 84 Lib.Math.min.name) (z_mc (z_ml z_m6))
  have w__static_Lib_Math_min_name := hts (.static Lib.Math.min.name) (z_mc (z_ml z_m7))
  have w__initialized_java_lang_Math_ := hts (.initialized "java/lang/Math") (z_mc (z_ml z_m8))
  have w__code_Lib_Math_min_name_Lib_Math_min_code_2_some_int_ := hts (.code Lib.Math.min.name Lib.Math.min.code 2 (some .int)) (z_mc (z_ml z_m9))
  have hl := lv_entry ([.ref h0, .int p1]) (n := 4) (Nat.le_of_ble_eq_true rfl)
  rw [lg_entry_eq]
  generalize (lg_sl ([.ref h0, .int p1]) ++ List.replicate (4 - (lg_sl ([.ref h0, .int p1])).length) Slot.unset).toArray = ls at hl ⊢
  have hl : lv_has ls 4 [(0, .ref h0), (1, .int p1)] := hl
  refine z_nameQ (fun QQ hQQ => ?_)
  refine lv_iconst (v := 0) hx hb dX10_numberFrom_0 (by decide) ?_
  refine lv_istore_n (lv' := [(2, .int 0), (0, .ref h0), (1, .int p1)]) hx hb dX10_numberFrom_1 rfl hl (by decide) rfl (fun ls hl => ?_)
  refine lv_iload_n hx hb dX10_numberFrom_2 rfl (lv_at hl 2 rfl) ?_
  refine lv_istore_n (lv' := [(3, .int p1), (2, .int 0), (0, .ref h0), (1, .int p1)]) hx hb dX10_numberFrom_3 rfl hl (by decide) rfl (fun ls hl => ?_)
  have loop_1 : ∀ (n_2 : Nat) (n_4 : Int32) (i_5 : Int32) (H : Heap) (locs : List Loc) (ls : Array Slot), (702 - (i_5).toInt).toNat < n_2 → (((0 : Int) ≤ (i_5).toInt ∧ (i_5).toInt ≤ (701 : Int))) → va_P (dC, dI) vwCl [(h0, .inr (10, [.ref h1, .int tt, h0_2, h0_3, h0_4, h0_5, .int te, h0_7, h0_8, h0_9, h0_10])), (h1, .inl (ch1, 700, .inl fh1))] H → va_D (fun _ => True) [(h0, .inr (10, [.ref h1, .int tt, h0_2, h0_3, h0_4, h0_5, .int te, h0_7, h0_8, h0_9, h0_10])), (h1, .inl (ch1, 700, .inl fh1))] → va_S A s.heap H locs → lv_has ls 4 [(3, .int i_5), (2, .int n_4), (0, .ref h0), (1, .int p1)] → W p l e ({ frames := 1, cells := 0, slots := 0, locals := 21 } : Room) s m ([.ref h0, .int p1] : List Value).toArray below meth c H locs 0 0 QQ (F0 m 4 ls []) := by
    intro n_2
    induction n_2 with
    | zero => intro n_4 i_5 H locs ls hm; exact absurd hm (Nat.not_lt_zero _)
    | succ n_2 ih_3 =>
      intro n_4 i_5 H locs ls hm hF_6 hP hD hS hl
      refine lv_iload_n hx hb dX10_numberFrom_4 rfl (lv_at hl 0 rfl) ?_
      refine lv_aload_n hx hb dX10_numberFrom_5 rfl (lv_at hl 2 rfl) ?_
      refine va_get (D := (dC, dI)) (ci := 10) (v := .int te) (C := RX10) (T := TX10) (N := 11) hx hb hts hiX10 hown hK hP 0 rfl rfl 6 (by decide) w__fieldLink_RX10_32_ShellHeap_Tape_end_I_ (fun _ h9 => h9) rfl dX10_numberFrom_6 ?_
      refine lv_icmp_ge (tgt := 37) hx hb dX10_numberFrom_9 (by decide) (fun c_7 => ?_) (fun c_7 => ?_)
      · have k_8 : (te).toInt ≤ (i_5).toInt := z_le c_7
        refine lv_iload_n hx hb dX10_numberFrom_37 rfl (lv_at hl 1 rfl) ?_
        refine z_backQ hQQ ?_
        refine W.widen (k := 0) (n := 0) (Nat.le_of_ble_eq_true rfl) (Nat.le_of_ble_eq_true rfl) ?_
        exact W.iret (v := n_4) hx hb hr (fun t ht hW => ⟨⟨n_4, (), rfl, trivial, trivial⟩, hS.F ht⟩) hS.2.2 dX10_numberFrom_38
      · have k_9 : (te).toInt > (i_5).toInt := z_nle c_7
        refine lv_iload_n hx hb dX10_numberFrom_12 rfl (lv_at hl 1 rfl) ?_
        refine lv_bipush (v := 10) hx hb dX10_numberFrom_13 (by decide) ?_
        refine lv_imul hx hb dX10_numberFrom_15 ?_
        refine lv_topi (fun z_10 ez_10 => ?_)
        refine lv_aload_n hx hb dX10_numberFrom_16 rfl (lv_at hl 2 rfl) ?_
        refine lv_iload_n hx hb dX10_numberFrom_17 rfl (lv_at hl 0 rfl) ?_
        have hPc := hP
        have hDc := hD
        have hKc := hK
        have hFc := va_free (ws := []) (wc := []) (z_D0 _) hS hA [] rfl
        refine va_calli (va_runV (As := [.int i_5]) (rest := [.int z_10]) ⟨hx, hb, hml, hown, hts⟩ (s_X10_byteAt l dC dI H.size h0 i_5 h1 tt h0_2 h0_3 h0_4 h0_5 (.int te) h0_7 h0_8 h0_9 h0_10 ch1 fh1 hB_tt hI_h1) (cwV 1 hts gw_s_X10_numberFrom_s_X10_byteAt_50 rfl rfl rfl (by decide +kernel) ⟨Nat.le_of_ble_eq_true rfl, Nat.le_of_ble_eq_true rfl⟩) ⟨z_blind, va_recv hKc hPc (ci := 10) (q0 := 0) rfl rfl, z_pre hPc hKc hDc⟩ rfl rfl hl.1 rfl (lv_room (Nat.le_of_ble_eq_true rfl)) dX10_numberFrom_18 ⟨Nat.le_of_ble_eq_true rfl, Nat.le_of_ble_eq_true rfl⟩) hS (fun q _ h => hFc q h) hFc (fun r_12 u t H_11 locs ht hvm hw_13 hB hz1 hk1 hS => ?_)
        replace hP := z_pure hP hk1
        clear hPc hDc hKc
        refine lv_iadd hx hb dX10_numberFrom_21 ?_
        refine lv_topi (fun z_14 ez_14 => ?_)
        refine lv_bipush (v := 48) hx hb dX10_numberFrom_22 (by decide) ?_
        refine lv_isub hx hb dX10_numberFrom_24 ?_
        refine lv_topi (fun z_15 ez_15 => ?_)
        refine lv_ldc (v := 1000000) hx hb hown w__constant_RX10_83_1000000_ dX10_numberFrom_25 ?_
        refine va_mmin hx hb (hml.trans hl.1.symm) hown w__methodLink_RX10_84_Lib_Math_min_name w__static_Lib_Math_min_name w__initialized_java_lang_Math_ w__code_Lib_Math_min_name_Lib_Math_min_code_2_some_int_ (Nat.le_of_ble_eq_true rfl) (Nat.le_of_ble_eq_true rfl) (Nat.le_of_ble_eq_true rfl) (Nat.le_of_ble_eq_true rfl) dX10_numberFrom_27 ?_
        refine lv_topi (fun z_16 ez_16 => ?_)
        have kz_16 : ((z_16).toInt = (z_15).toInt ∨ (z_16).toInt = (1000000 : Int)) ∧ (z_16).toInt ≤ (z_15).toInt ∧ (z_16).toInt ≤ (1000000 : Int) := z_min ez_16
        refine lv_istore_n (lv' := [(2, .int z_16), (3, .int i_5), (0, .ref h0), (1, .int p1)]) hx hb dX10_numberFrom_30 rfl hl (by decide) rfl (fun ls hl => ?_)
        obtain ⟨z_17, ez_17⟩ : ∃ y : Int32, y = i_5 + 1 := ⟨_, rfl⟩
        have kz_17 : (z_17).toInt = (i_5).toInt + (1 : Int) := by rw [ez_17]; exact z_add (b := 1) rfl rfl (z_al hF_6.1 (by decide)) (z_ah hF_6.2 (by decide))
        refine lv_iinc (v := z_17) (lv' := [(3, .int z_17), (2, .int z_16), (0, .ref h0), (1, .int p1)]) hx hb dX10_numberFrom_31 hl (k := 1) rfl (by rw [ez_17]; rfl) (by decide) rfl (fun ls hl => ?_)
        refine lv_goto (tgt := 4) hx hb dX10_numberFrom_34 (by decide) ?_
        exact ih_3 z_16 z_17 _ _ _ (show (702 - (z_17).toInt).toNat < n_2 by omega) (show ((0 : Int) ≤ (z_17).toInt ∧ (z_17).toInt ≤ (701 : Int)) by omega) hP hD hS (lv_sub hl [0, 1, 2, 3] rfl)
  exact loop_1 _ 0 p1 _ _ _ (Nat.lt_succ_self _) (show ((0 : Int) ≤ (p1).toInt ∧ (p1).toInt ≤ (701 : Int)) by omega) hP hD hS hl
def u_s_X10_isInHandAt : List Cond := .code yX10_isInHandAt cX10_isInHandAt 4 (some .boolean) :: ([.fieldLink RX10 32 "ShellHeap$Tape" "end" "I", .fieldLink RX10 29 "ShellHeap$Tape" "start" "I", .methodLink RX10 50 yX10_byteAt, .instanceMethod yX10_byteAt, .selects RX10 yX10_byteAt yX10_byteAt, .initialized RX10] ++ (wsX100 ++ (u_s_X10_byteAt ++ [])))
theorem gd_s_X10_isInHandAt : z_gd u_s_X10_isInHandAt := z_gdc (by decide +kernel) (z_gda gdX10 (z_gda gd_s_X10_byteAt (z_gd0)))
set_option maxRecDepth 20000 in
theorem gw_s_X10_isInHandAt_s_X10_byteAt_50 : GoodIn u_s_X10_isInHandAt (wsV RX10 50 RX10 yX10_byteAt u_s_X10_byteAt) := z_gV (z_gr _ [3, 4, 5, 6] rfl (by decide +kernel)) (fun w h => ⟨z_mc (z_mr (z_mr (z_ml h))), gd_s_X10_byteAt w h⟩)
set_option maxHeartbeats 4000000 in
set_option maxRecDepth 100000 in
theorem s_X10_isInHandAt (l : Launch) (dC : Nat → ClassId) (dI : Nat → Nat → Nat) (sz : Nat) (h0 : Nat) (p1 : Int32) (p2 : Int32) (h1 : Nat) (tt : Int32) (h0_2 : Value) (h0_3 : Value) (h0_4 : Value) (ts : Int32) (te : Int32) (h0_7 : Value) (h0_8 : Value) (h0_9 : Value) (h0_10 : Value) (ch1 : ClassId) (fh1 : Nat → Int32) (hB_tt : ((0 : Int) ≤ (tt).toInt ∧ (tt).toInt ≤ (700 : Int))) (hB_ts : ((0 : Int) ≤ (ts).toInt ∧ (ts).toInt ≤ (700 : Int))) (hB_te : ((0 : Int) ≤ (te).toInt ∧ (te).toInt ≤ (700 : Int))) (hI_h1 : ∀ j : Nat, ((0 : Int) ≤ (fh1 j).toInt ∧ (fh1 j).toInt ≤ (255 : Int))) : Met l yX10_isInHandAt u_s_X10_isInHandAt ({ frames := 1, cells := 0, slots := 0, locals := 21 }) (va_Pc [.ref h0, .int p1, .int p2] (z_C (dC, dI) vwCl [(h0, .inr (10, [.ref h1, .int tt, h0_2, h0_3, h0_4, .int ts, .int te, h0_7, h0_8, h0_9, h0_10])), (h1, .inl (ch1, 700, .inl fh1))] [(ch1, .int)] sz)) (va_Qi (fun (r : Int32) (_ : Unit) => ((0 : Int) ≤ (r).toInt ∧ (r).toInt ≤ (1 : Int))) (fun (_ : Unit) (_ : State) => True) (va_A [] sz)) 0 0 (va_A [] sz) := by
  refine Met.ofW (cc := cX10_isInHandAt) (maxL := 4) (ret := (some .boolean)) (by decide) rfl ?_
  intro p e s m args below meth c s₁ B hml hv
  obtain ⟨rfl, hsz, hP, hK, hD0⟩ := hv
  have hx := B.exec
  have hb := B.bytes
  have hr := B.returns
  have hts := atoms_spec (ws := u_s_X10_isInHandAt) B.pre
  have hown : s.vm.findClass RX10 = some m.cls := findClass_of_methodNamed B.named
  have hlocks := B.notSynchronized
  subst hsz
  have hD := hD0
  generalize hAe : va_A [] s.heap.size = A
  have hA : ∀ q : Nat, s.heap.size ≤ q → A q := fun q h => by rw [← hAe]; exact Or.inr h
  have hS : va_S A s.heap s.heap [] := va_S.rf
  have hP : va_P (dC, dI) vwCl [(h0, .inr (10, [.ref h1, .int tt, h0_2, h0_3, h0_4, .int ts, .int te, h0_7, h0_8, h0_9, h0_10])), (h1, .inl (ch1, 700, .inl fh1))] s.heap := hP
  have w__fieldLink_RX10_32_ShellHeap_Tape_end_I_ := hts (.fieldLink RX10 32 "ShellHeap$Tape" "end" "I") (z_mc (z_ml z_m0))
  have hiX10 := show ∀ w ∈ u_ws RX10 TX10 11, w ∈ u_s_X10_isInHandAt from fun w h => z_mc (z_mr (z_ml h))
  have w__fieldLink_RX10_29_ShellHeap_Tape_start_I_ := hts (.fieldLink RX10 29 "ShellHeap$Tape" "start" "I") (z_mc (z_ml z_m1))
  have krr_p1 := z_rng p1
  have krr_p2 := z_rng p2
  have hl := lv_entry ([.ref h0, .int p1, .int p2]) (n := 4) (Nat.le_of_ble_eq_true rfl)
  rw [lg_entry_eq]
  generalize (lg_sl ([.ref h0, .int p1, .int p2]) ++ List.replicate (4 - (lg_sl ([.ref h0, .int p1, .int p2])).length) Slot.unset).toArray = ls at hl ⊢
  have hl : lv_has ls 4 [(0, .ref h0), (1, .int p1), (2, .int p2)] := hl
  refine z_nameQ (fun QQ hQQ => ?_)
  refine lv_iload_n hx hb dX10_isInHandAt_0 rfl (lv_at hl 2 rfl) ?_
  refine lv_aload_n hx hb dX10_isInHandAt_1 rfl (lv_at hl 0 rfl) ?_
  refine va_get (D := (dC, dI)) (ci := 10) (v := .int te) (C := RX10) (T := TX10) (N := 11) hx hb hts hiX10 hown hK hP 0 rfl rfl 6 (by decide) w__fieldLink_RX10_32_ShellHeap_Tape_end_I_ (fun _ h9 => h9) rfl dX10_isInHandAt_2 ?_
  refine lv_aload_n hx hb dX10_isInHandAt_5 rfl (lv_at hl 0 rfl) ?_
  refine va_get (D := (dC, dI)) (ci := 10) (v := .int ts) (C := RX10) (T := TX10) (N := 11) hx hb hts hiX10 hown hK hP 0 rfl rfl 5 (by decide) w__fieldLink_RX10_29_ShellHeap_Tape_start_I_ (fun _ h9 => h9) rfl dX10_isInHandAt_6 ?_
  refine lv_isub hx hb dX10_isInHandAt_9 ?_
  refine lv_topi (fun z_1 ez_1 => ?_)
  have kz_1 : (z_1).toInt = (te).toInt - (ts).toInt := by rw [ez_1]; exact z_sub (a := (te).toInt) (b := (ts).toInt) rfl rfl (by omega) (by omega)
  refine lv_icmp_eq (tgt := 15) hx hb dX10_isInHandAt_10 (by decide) (fun c_2 => ?_) (fun c_2 => ?_)
  · have k_3 : (p2).toInt = (z_1).toInt := z_eq c_2
    refine lv_iconst (v := 0) hx hb dX10_isInHandAt_15 (by decide) ?_
    refine lv_istore_n (lv' := [(3, .int 0), (0, .ref h0), (1, .int p1), (2, .int p2)]) hx hb dX10_isInHandAt_16 rfl hl (by decide) rfl (fun ls hl => ?_)
    have loop_4 : ∀ (n_5 : Nat) (i_7 : Int32) (H : Heap) (locs : List Loc) (ls : Array Slot), (701 - (i_7).toInt).toNat < n_5 → (((0 : Int) ≤ (i_7).toInt ∧ (i_7).toInt ≤ (700 : Int))) → va_P (dC, dI) vwCl [(h0, .inr (10, [.ref h1, .int tt, h0_2, h0_3, h0_4, .int ts, .int te, h0_7, h0_8, h0_9, h0_10])), (h1, .inl (ch1, 700, .inl fh1))] H → va_D (fun _ => True) [(h0, .inr (10, [.ref h1, .int tt, h0_2, h0_3, h0_4, .int ts, .int te, h0_7, h0_8, h0_9, h0_10])), (h1, .inl (ch1, 700, .inl fh1))] → va_S A s.heap H locs → lv_has ls 4 [(3, .int i_7), (0, .ref h0), (1, .int p1), (2, .int p2)] → W p l e ({ frames := 1, cells := 0, slots := 0, locals := 21 } : Room) s m ([.ref h0, .int p1, .int p2] : List Value).toArray below meth c H locs 0 0 QQ (F0 m 17 ls []) := by
      intro n_5
      induction n_5 with
      | zero => intro i_7 H locs ls hm; exact absurd hm (Nat.not_lt_zero _)
      | succ n_5 ih_6 =>
        intro i_7 H locs ls hm hF_8 hP hD hS hl
        refine lv_iload_n hx hb dX10_isInHandAt_17 rfl (lv_at hl 0 rfl) ?_
        refine lv_iload_n hx hb dX10_isInHandAt_18 rfl (lv_at hl 3 rfl) ?_
        refine lv_icmp_ge (tgt := 50) hx hb dX10_isInHandAt_19 (by decide) (fun c_9 => ?_) (fun c_9 => ?_)
        · have k_10 : (p2).toInt ≤ (i_7).toInt := z_le c_9
          refine lv_iconst (v := 1) hx hb dX10_isInHandAt_50 (by decide) ?_
          refine z_backQ hQQ ?_
          refine W.widen (k := 0) (n := 0) (Nat.le_of_ble_eq_true rfl) (Nat.le_of_ble_eq_true rfl) ?_
          exact W.zret (v := 1) hx hb hr (by rfl) (fun t ht hW => ⟨⟨1, (), rfl, (show ((0 : Int) ≤ (1 : Int) ∧ (1 : Int) ≤ (1 : Int)) by decide), trivial⟩, hS.F ht⟩) hS.2.2 dX10_isInHandAt_51
        · have k_11 : (p2).toInt > (i_7).toInt := z_nle c_9
          refine lv_aload_n hx hb dX10_isInHandAt_22 rfl (lv_at hl 1 rfl) ?_
          refine lv_iload_n hx hb dX10_isInHandAt_23 rfl (lv_at hl 2 rfl) ?_
          refine lv_iload_n hx hb dX10_isInHandAt_24 rfl (lv_at hl 0 rfl) ?_
          refine lv_iadd hx hb dX10_isInHandAt_25 ?_
          refine lv_topi (fun z_12 ez_12 => ?_)
          have hPc := hP
          have hDc := hD
          have hKc := hK
          have hFc := va_free (ws := []) (wc := []) (z_D0 _) hS hA [] rfl
          refine va_calli (va_runV (As := [.int z_12]) (rest := []) ⟨hx, hb, hml, hown, hts⟩ (s_X10_byteAt l dC dI H.size h0 z_12 h1 tt h0_2 h0_3 h0_4 (.int ts) (.int te) h0_7 h0_8 h0_9 h0_10 ch1 fh1 hB_tt hI_h1) (cwV 1 hts gw_s_X10_isInHandAt_s_X10_byteAt_50 rfl rfl rfl (by decide +kernel) ⟨Nat.le_of_ble_eq_true rfl, Nat.le_of_ble_eq_true rfl⟩) ⟨z_blind, va_recv hKc hPc (ci := 10) (q0 := 0) rfl rfl, z_pre hPc hKc hDc⟩ rfl rfl hl.1 rfl (lv_room (Nat.le_of_ble_eq_true rfl)) dX10_isInHandAt_26 ⟨Nat.le_of_ble_eq_true rfl, Nat.le_of_ble_eq_true rfl⟩) hS (fun q _ h => hFc q h) hFc (fun r_14 u t H_13 locs ht hvm hw_15 hB hz1 hk1 hS => ?_)
          replace hP := z_pure hP hk1
          clear hPc hDc hKc
          refine lv_aload_n hx hb dX10_isInHandAt_29 rfl (lv_at hl 1 rfl) ?_
          refine lv_aload_n hx hb dX10_isInHandAt_30 rfl (lv_at hl 1 rfl) ?_
          refine va_get (D := (dC, dI)) (ci := 10) (v := .int ts) (C := RX10) (T := TX10) (N := 11) hx hb hts hiX10 hown hK hP 0 rfl rfl 5 (by decide) w__fieldLink_RX10_29_ShellHeap_Tape_start_I_ (fun _ h9 => h9) rfl dX10_isInHandAt_31 ?_
          refine lv_iload_n hx hb dX10_isInHandAt_34 rfl (lv_at hl 0 rfl) ?_
          refine lv_iadd hx hb dX10_isInHandAt_35 ?_
          refine lv_topi (fun z_16 ez_16 => ?_)
          have kz_16 : (z_16).toInt = (ts).toInt + (i_7).toInt := by rw [ez_16]; exact z_add (a := (ts).toInt) (b := (i_7).toInt) rfl rfl (by omega) (by omega)
          have hPc := hP
          have hDc := hD
          have hKc := hK
          have hFc := va_free (ws := []) (wc := []) (z_D0 _) hS hA [] rfl
          refine va_calli (va_runV (As := [.int z_16]) (rest := [.int r_14]) ⟨hx, hb, hml, hown, hts⟩ (s_X10_byteAt l dC dI H_13.size h0 z_16 h1 tt h0_2 h0_3 h0_4 (.int ts) (.int te) h0_7 h0_8 h0_9 h0_10 ch1 fh1 hB_tt hI_h1) (cwV 1 hts gw_s_X10_isInHandAt_s_X10_byteAt_50 rfl rfl rfl (by decide +kernel) ⟨Nat.le_of_ble_eq_true rfl, Nat.le_of_ble_eq_true rfl⟩) ⟨z_blind, va_recv hKc hPc (ci := 10) (q0 := 0) rfl rfl, z_pre hPc hKc hDc⟩ rfl rfl hl.1 rfl (lv_room (Nat.le_of_ble_eq_true rfl)) dX10_isInHandAt_36 ⟨Nat.le_of_ble_eq_true rfl, Nat.le_of_ble_eq_true rfl⟩) hS (fun q _ h => hFc q h) hFc (fun r_18 u t H_17 locs ht hvm hw_19 hB hz1 hk1 hS => ?_)
          replace hP := z_pure hP hk1
          clear hPc hDc hKc
          refine lv_icmp_eq (tgt := 44) hx hb dX10_isInHandAt_39 (by decide) (fun c_20 => ?_) (fun c_20 => ?_)
          · have k_21 : (r_14).toInt = (r_18).toInt := z_eq c_20
            obtain ⟨z_22, ez_22⟩ : ∃ y : Int32, y = i_7 + 1 := ⟨_, rfl⟩
            have kz_22 : (z_22).toInt = (i_7).toInt + (1 : Int) := by rw [ez_22]; exact z_add (b := 1) rfl rfl (z_al hF_8.1 (by decide)) (z_ah hF_8.2 (by decide))
            refine lv_iinc (v := z_22) (lv' := [(3, .int z_22), (0, .ref h0), (1, .int p1), (2, .int p2)]) hx hb dX10_isInHandAt_44 hl (k := 0) rfl (by rw [ez_22]; rfl) (by decide) rfl (fun ls hl => ?_)
            refine lv_goto (tgt := 17) hx hb dX10_isInHandAt_47 (by decide) ?_
            exact ih_6 z_22 _ _ _ (show (701 - (z_22).toInt).toNat < n_5 by omega) (show ((0 : Int) ≤ (z_22).toInt ∧ (z_22).toInt ≤ (700 : Int)) by omega) hP hD hS (lv_sub hl [0, 1, 2, 3] rfl)
          · have k_23 : (r_14).toInt ≠ (r_18).toInt := z_ne c_20
            refine lv_iconst (v := 0) hx hb dX10_isInHandAt_42 (by decide) ?_
            refine z_backQ hQQ ?_
            refine W.widen (k := 0) (n := 0) (Nat.le_of_ble_eq_true rfl) (Nat.le_of_ble_eq_true rfl) ?_
            exact W.zret (v := 0) hx hb hr (by rfl) (fun t ht hW => ⟨⟨0, (), rfl, (show ((0 : Int) ≤ (0 : Int) ∧ (0 : Int) ≤ (1 : Int)) by decide), trivial⟩, hS.F ht⟩) hS.2.2 dX10_isInHandAt_43
    exact loop_4 _ 0 _ _ _ (Nat.lt_succ_self _) (show ((0 : Int) ≤ (0 : Int) ∧ (0 : Int) ≤ (700 : Int)) by omega) hP hD hS hl
  · have k_24 : (p2).toInt ≠ (z_1).toInt := z_ne c_2
    refine lv_iconst (v := 0) hx hb dX10_isInHandAt_13 (by decide) ?_
    refine z_backQ hQQ ?_
    refine W.widen (k := 0) (n := 0) (Nat.le_of_ble_eq_true rfl) (Nat.le_of_ble_eq_true rfl) ?_
    exact W.zret (v := 0) hx hb hr (by rfl) (fun t ht hW => ⟨⟨0, (), rfl, (show ((0 : Int) ≤ (0 : Int) ∧ (0 : Int) ≤ (1 : Int)) by decide), trivial⟩, hS.F ht⟩) hS.2.2 dX10_isInHandAt_14
