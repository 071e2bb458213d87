def u_s_X10_numberBehind_1 : List Cond := .code yX10_numberBehind cX10_numberBehind 2 (some .int) :: ([.fieldLink RX10 35 "ShellHeap$Tape" "sort" "I", .fieldLink RX10 32 "ShellHeap$Tape" "end" "I", .fieldLink RX10 29 "ShellHeap$Tape" "start" "I", .methodLink RX10 50 yX10_byteAt, .instanceMethod yX10_byteAt, .selects RX10 yX10_byteAt yX10_byteAt, .initialized RX10, .code yX10_byteAt cX10_byteAt 2 (some .int), .fieldLink RX10 15 "ShellHeap$Tape" "text" "I", .fieldLink RX10 11 "ShellHeap$Tape" "bytes" "[I", .methodLink RX10 64 yX10_isDigit, .static yX10_isDigit, .code yX10_isDigit cX10_isDigit 1 (some .boolean), .methodLink RX10 80 yX10_numberFrom, .instanceMethod yX10_numberFrom, .selects RX10 yX10_numberFrom yX10_numberFrom, .code yX10_numberFrom cX10_numberFrom 4 (some .int), .constant RX10 83 (1000000), .methodLink RX10 84 Lib.Math.min.name, .static Lib.Math.min.name, .initialized "java/lang/Math", .code Lib.Math.min.name Lib.Math.min.code 2 (some .int)] ++ wsX100)
set_option maxRecDepth 20000 in
theorem gw_s_X10_numberBehind_1_s_X10_byteAt4_50 : GoodIn u_s_X10_numberBehind_1 (wsV RX10 50 RX10 yX10_byteAt u_s_X10_byteAt4) := z_gr _ [4, 5, 6, 7, 8, 9, 10, 23, 24, 25, 26, 27, 28, 29, 30, 31, 32, 33] rfl (by decide +kernel)
set_option maxRecDepth 20000 in
theorem gw_s_X10_numberBehind_1_s_X10_isDigit3_64 : GoodIn u_s_X10_numberBehind_1 (va_wsS RX10 64 yX10_isDigit u_s_X10_isDigit3) := z_gr _ [11, 12, 7, 13] rfl (by decide +kernel)
set_option maxRecDepth 20000 in
theorem gw_s_X10_numberBehind_1_s_X10_numberFrom3_80 : GoodIn u_s_X10_numberBehind_1 (wsV RX10 80 RX10 yX10_numberFrom u_s_X10_numberFrom3) := z_gr _ [14, 15, 16, 7, 17, 2, 4, 5, 6, 7, 8, 9, 10, 18, 19, 20, 21, 22, 23, 24, 25, 26, 27, 28, 29, 30, 31, 32, 33] rfl (by decide +kernel)
set_option maxHeartbeats 4000000 in
set_option maxRecDepth 100000 in
theorem s_X10_numberBehind_1 (l : Launch) (dC : Nat → ClassId) (dI : Nat → Nat → Nat) (sz : Nat) (h0 : Nat) (h1 : Nat) (tt : Int32) (h0_2 : Value) (h0_3 : Value) (h0_4 : Value) (ts : Int32) (te : Int32) (to : Int32) (tg : Int32) (h0_9 : Value) (h0_10 : Value) (ch1 : ClassId) (fh1 : Nat → Int32) (hB_tt : ((0 : Int) ≤ (tt).toInt ∧ (tt).toInt ≤ (700 : Int))) (hB_ts : ((0 : Int) ≤ (ts).toInt ∧ (ts).toInt ≤ (700 : Int))) (hB_te : ((0 : Int) ≤ (te).toInt ∧ (te).toInt ≤ (700 : Int))) (hI_h1 : ∀ j : Nat, ((0 : Int) ≤ (fh1 j).toInt ∧ (fh1 j).toInt ≤ (255 : Int))) (hC : f_C fh1 tt.toInt to.toInt tg.toInt ts.toInt te.toInt) (het : te.toInt ≤ tt.toInt) : Met l yX10_numberBehind u_s_X10_numberBehind_1 ({ frames := 2, cells := 0, slots := 0, locals := 44 }) (va_Pc [.ref h0, .int 107] (z_C (dC, dI) vwCl [(h0, .inr (10, [.ref h1, .int tt, h0_2, h0_3, h0_4, .int ts, .int te, .int to, .int tg, h0_9, h0_10])), (h1, .inl (ch1, 700, .inl fh1))] [(ch1, .int)] sz)) (va_Qi (fun (r : Int32) (_ : Unit) => ((-1 : Int) ≤ (r).toInt ∧ (r).toInt ≤ (1000000 : Int)) ∧ f_nbA fh1 tt.toInt ts.toInt te.toInt 1 (r).toInt) (fun (_ : Unit) (_ : State) => True) (va_A [] sz)) 0 0 (va_A [] sz) := by
  refine Met.ofW (cc := cX10_numberBehind) (maxL := 2) (ret := (some .int)) (by decide) rfl ?_
  intro p e s m args below meth c s₁ B hml hv
  obtain ⟨rfl, hsz, hP, hK, hD0⟩ := hv
  have hx := B.exec
  have hb := B.bytes
  have hr := B.returns
  have hts := atoms_spec (ws := u_s_X10_numberBehind_1) B.pre
  have hown : s.vm.findClass RX10 = some m.cls := findClass_of_methodNamed B.named
  have hlocks := B.notSynchronized
  subst hsz
  have hD := hD0
  generalize hAe : va_A [] s.heap.size = A
  have hA : ∀ q : Nat, s.heap.size ≤ q → A q := fun q h => by rw [← hAe]; exact Or.inr h
  have hS : va_S A s.heap s.heap [] := va_S.rf
  have hP : va_P (dC, dI) vwCl [(h0, .inr (10, [.ref h1, .int tt, h0_2, h0_3, h0_4, .int ts, .int te, .int to, .int tg, h0_9, h0_10])), (h1, .inl (ch1, 700, .inl fh1))] s.heap := hP
  have w__fieldLink_RX10_35_ShellHeap_Tape_sort_I_ := hts (.fieldLink RX10 35 "ShellHeap$Tape" "sort" "I") (by decide +kernel)
  have hiX10 := show ∀ w ∈ u_ws RX10 TX10 11, w ∈ u_s_X10_numberBehind_1 by decide +kernel
  have w__fieldLink_RX10_32_ShellHeap_Tape_end_I_ := hts (.fieldLink RX10 32 "ShellHeap$Tape" "end" "I") (by decide +kernel)
  have w__fieldLink_RX10_29_ShellHeap_Tape_start_I_ := hts (.fieldLink RX10 29 "ShellHeap$Tape" "start" "I") (by decide +kernel)
  have hl := lv_entry ([.ref h0, .int 107]) (n := 2) (Nat.le_of_ble_eq_true rfl)
  rw [lg_entry_eq]
  generalize (lg_sl ([.ref h0, .int 107]) ++ List.replicate (2 - (lg_sl ([.ref h0, .int 107])).length) Slot.unset).toArray = ls at hl ⊢
  have hl : lv_has ls 2 [(0, .ref h0), (1, .int 107)] := hl
  refine lv_aload_n hx hb dX10_numberBehind_0 rfl (lv_at hl 0 rfl) ?_
  refine va_get (D := (dC, dI)) (ci := 10) (v := .int to) (C := RX10) (T := TX10) (N := 11) hx hb hts hiX10 hown hK hP 0 rfl rfl 7 (by decide) w__fieldLink_RX10_35_ShellHeap_Tape_sort_I_ (fun _ h9 => h9) rfl dX10_numberBehind_1 ?_
  refine lv_iconst (v := 1) hx hb dX10_numberBehind_4 (by decide) ?_
  refine lv_icmp_ne (tgt := 49) hx hb dX10_numberBehind_5 (by decide) (fun c_1 => ?_) (fun c_1 => ?_)
  · have k_2 : (to).toInt ≠ (1 : Int) := z_ne c_1
    refine lv_iconst (v := (-1)) hx hb dX10_numberBehind_49 (by decide) ?_
    refine W.widen (k := 0) (n := 0) (Nat.le_of_ble_eq_true rfl) (Nat.le_of_ble_eq_true rfl) ?_
    exact W.iret (v := (-1)) hx hb hr (fun t ht hW => ⟨⟨(-1), (), rfl, (show ((-1 : Int) ≤ (-1 : Int) ∧ (-1 : Int) ≤ (1000000 : Int)) ∧ f_nbA fh1 tt.toInt ts.toInt te.toInt 1 (-1 : Int) from ⟨by decide, Or.inl ⟨rfl, fun k8 v8 b8 ht8 => f_nbn (c := 107) (Or.inl ⟨rfl, rfl⟩) hC (by first | exact Or.inl (by omega) | exact Or.inr (Or.inl (by omega))) ht8⟩⟩), trivial⟩, hS.F ht⟩) hS.2.2 dX10_numberBehind_50
  · have k_3 : (to).toInt = (1 : Int) := z_eq c_1
    refine lv_aload_n hx hb dX10_numberBehind_8 rfl (lv_at hl 0 rfl) ?_
    refine va_get (D := (dC, dI)) (ci := 10) (v := .int te) (C := RX10) (T := TX10) (N := 11) hx hb hts hiX10 hown hK hP 0 rfl rfl 6 (by decide) w__fieldLink_RX10_32_ShellHeap_Tape_end_I_ (fun _ h9 => h9) rfl dX10_numberBehind_9 ?_
    refine lv_aload_n hx hb dX10_numberBehind_12 rfl (lv_at hl 0 rfl) ?_
    refine va_get (D := (dC, dI)) (ci := 10) (v := .int ts) (C := RX10) (T := TX10) (N := 11) hx hb hts hiX10 hown hK hP 0 rfl rfl 5 (by decide) w__fieldLink_RX10_29_ShellHeap_Tape_start_I_ (fun _ h9 => h9) rfl dX10_numberBehind_13 ?_
    refine lv_isub hx hb dX10_numberBehind_16 ?_
    refine lv_topi (fun z_4 ez_4 => ?_)
    have kz_4 : (z_4).toInt = (te).toInt - (ts).toInt := by rw [ez_4]; exact z_sub (a := (te).toInt) (b := (ts).toInt) rfl rfl (by omega) (by omega)
    refine lv_iconst (v := 2) hx hb dX10_numberBehind_17 (by decide) ?_
    refine lv_icmp_lt (tgt := 49) hx hb dX10_numberBehind_18 (by decide) (fun c_5 => ?_) (fun c_5 => ?_)
    · have k_6 : (z_4).toInt < (2 : Int) := z_lt c_5
      refine lv_iconst (v := (-1)) hx hb dX10_numberBehind_49 (by decide) ?_
      refine W.widen (k := 0) (n := 0) (Nat.le_of_ble_eq_true rfl) (Nat.le_of_ble_eq_true rfl) ?_
      exact W.iret (v := (-1)) hx hb hr (fun t ht hW => ⟨⟨(-1), (), rfl, (show ((-1 : Int) ≤ (-1 : Int) ∧ (-1 : Int) ≤ (1000000 : Int)) ∧ f_nbA fh1 tt.toInt ts.toInt te.toInt 1 (-1 : Int) from ⟨by decide, Or.inl ⟨rfl, fun k8 v8 b8 ht8 => f_nbn (c := 107) (Or.inl ⟨rfl, rfl⟩) hC (by first | exact Or.inl (by omega) | exact Or.inr (Or.inl (by omega))) ht8⟩⟩), trivial⟩, hS.F ht⟩) hS.2.2 dX10_numberBehind_50
    · have k_7 : (z_4).toInt ≥ (2 : Int) := z_nlt c_5
      refine lv_aload_n hx hb dX10_numberBehind_21 rfl (lv_at hl 0 rfl) ?_
      refine lv_aload_n hx hb dX10_numberBehind_22 rfl (lv_at hl 0 rfl) ?_
      refine va_get (D := (dC, dI)) (ci := 10) (v := .int ts) (C := RX10) (T := TX10) (N := 11) hx hb hts hiX10 hown hK hP 0 rfl rfl 5 (by decide) w__fieldLink_RX10_29_ShellHeap_Tape_start_I_ (fun _ h9 => h9) rfl dX10_numberBehind_23 ?_
      have hPc := hP.sub (ws' := [(h0, .inr (10, [.ref h1, .int tt, h0_2, h0_3, h0_4, .int ts, .int te, .int to, .int tg, h0_9, h0_10])), (h1, .inl (ch1, 700, .inl fh1))]) [0, 1] rfl
      have hDc := hD.sub (ws' := [(h0, .inr (10, [.ref h1, .int tt, h0_2, h0_3, h0_4, .int ts, .int te, .int to, .int tg, h0_9, h0_10])), (h1, .inl (ch1, 700, .inl fh1))]) [0, 1] (by decide) rfl
      have hKc := hK.sub (tys' := [(ch1, .int)]) [0] rfl
      have hFc := va_free (ws := []) (wc := []) (z_D0 _) hS hA [] rfl
      refine va_calli (va_runV (As := [.int ts]) (rest := []) ⟨hx, hb, hml, hown, hts⟩ (s_X10_byteAt4 l dC dI s.heap.size h0 ts h1 tt h0_2 h0_3 h0_4 (.int ts) (.int te) (.int to) (.int tg) h0_9 h0_10 ch1 fh1 (by first | omega | decide) hI_h1) (cwV 1 hts gw_s_X10_numberBehind_1_s_X10_byteAt4_50 rfl rfl rfl (by decide +kernel) ⟨Nat.le_of_ble_eq_true rfl, Nat.le_of_ble_eq_true rfl⟩) ⟨z_blind, va_recv hKc hPc (ci := 10) (q0 := 0) rfl rfl, z_pre hPc hKc hDc⟩ rfl rfl hl.1 rfl (lv_room (Nat.le_of_ble_eq_true rfl)) dX10_numberBehind_26 ⟨Nat.le_of_ble_eq_true rfl, Nat.le_of_ble_eq_true rfl⟩) hS (fun q _ h => hFc q h) hFc (fun r_9 u t H_8 locs ht hvm hw_10 hB hz1 hk1 hS => ?_)
      have hP := z_pure hP hk1
      have hP : va_P (dC, dI) vwCl [(h0, .inr (10, [.ref h1, .int tt, h0_2, h0_3, h0_4, .int ts, .int te, .int to, .int tg, h0_9, h0_10])), (h1, .inl (ch1, 700, .inl fh1))] H_8 := hP
      have hD : va_D (fun _ => True) [(h0, .inr (10, [.ref h1, .int tt, h0_2, h0_3, h0_4, .int ts, .int te, .int to, .int tg, h0_9, h0_10])), (h1, .inl (ch1, 700, .inl fh1))] := hD
      clear hPc hDc hKc
      refine lv_iload_n hx hb dX10_numberBehind_29 rfl (lv_at hl 1 rfl) ?_
      refine lv_icmp_ne (tgt := 49) hx hb dX10_numberBehind_30 (by decide) (fun c_11 => ?_) (fun c_11 => ?_)
      · have k_12 : (r_9).toInt ≠ (107 : Int) := z_ne c_11
        refine lv_iconst (v := (-1)) hx hb dX10_numberBehind_49 (by decide) ?_
        refine W.widen (k := 0) (n := 0) (Nat.le_of_ble_eq_true rfl) (Nat.le_of_ble_eq_true rfl) ?_
        exact W.iret (v := (-1)) hx hb hr (fun t ht hW => ⟨⟨(-1), (), rfl, (show ((-1 : Int) ≤ (-1 : Int) ∧ (-1 : Int) ≤ (1000000 : Int)) ∧ f_nbA fh1 tt.toInt ts.toInt te.toInt 1 (-1 : Int) from ⟨by decide, Or.inl ⟨rfl, fun k8 v8 b8 ht8 => f_nbn (c := 107) (Or.inl ⟨rfl, rfl⟩) hC (Or.inr (Or.inr (Or.inl (fun q9 => absurd ((congrArg Int32.toInt (hw_10.2.1 (by omega) (by omega))).trans q9) (by omega))))) ht8⟩⟩), trivial⟩, hS.F ht⟩) hS.2.2 dX10_numberBehind_50
      · have k_13 : (r_9).toInt = (107 : Int) := z_eq c_11
        obtain rfl : r_9 = 107 := z_eq' (show (r_9).toInt = (107 : Int) by omega)
        refine lv_aload_n hx hb dX10_numberBehind_33 rfl (lv_at hl 0 rfl) ?_
        refine lv_aload_n hx hb dX10_numberBehind_34 rfl (lv_at hl 0 rfl) ?_
        refine va_get (D := (dC, dI)) (ci := 10) (v := .int ts) (C := RX10) (T := TX10) (N := 11) hx hb hts hiX10 hown hK hP 0 rfl rfl 5 (by decide) w__fieldLink_RX10_29_ShellHeap_Tape_start_I_ (fun _ h9 => h9) rfl dX10_numberBehind_35 ?_
        refine lv_iconst (v := 1) hx hb dX10_numberBehind_38 (by decide) ?_
        refine lv_iadd hx hb dX10_numberBehind_39 ?_
        refine lv_topi (fun z_15 ez_15 => ?_)
        have kz_15 : (z_15).toInt = (ts).toInt + (1 : Int) := by rw [ez_15]; exact z_add (a := (ts).toInt) (b := (1 : Int)) rfl rfl (by omega) (by omega)
        have hPc := hP.sub (ws' := [(h0, .inr (10, [.ref h1, .int tt, h0_2, h0_3, h0_4, .int ts, .int te, .int to, .int tg, h0_9, h0_10])), (h1, .inl (ch1, 700, .inl fh1))]) [0, 1] rfl
        have hDc := hD.sub (ws' := [(h0, .inr (10, [.ref h1, .int tt, h0_2, h0_3, h0_4, .int ts, .int te, .int to, .int tg, h0_9, h0_10])), (h1, .inl (ch1, 700, .inl fh1))]) [0, 1] (by decide) rfl
        have hKc := hK.sub (tys' := [(ch1, .int)]) [0] rfl
        have hFc := va_free (ws := []) (wc := []) (z_D0 _) hS hA [] rfl
        refine va_calli (va_runV (As := [.int z_15]) (rest := []) ⟨hx, hb, hml, hown, hts⟩ (s_X10_byteAt4 l dC dI H_8.size h0 z_15 h1 tt h0_2 h0_3 h0_4 (.int ts) (.int te) (.int to) (.int tg) h0_9 h0_10 ch1 fh1 (by first | omega | decide) hI_h1) (cwV 1 hts gw_s_X10_numberBehind_1_s_X10_byteAt4_50 rfl rfl rfl (by decide +kernel) ⟨Nat.le_of_ble_eq_true rfl, Nat.le_of_ble_eq_true rfl⟩) ⟨z_blind, va_recv hKc hPc (ci := 10) (q0 := 0) rfl rfl, z_pre hPc hKc hDc⟩ rfl rfl hl.1 rfl (lv_room (Nat.le_of_ble_eq_true rfl)) dX10_numberBehind_40 ⟨Nat.le_of_ble_eq_true rfl, Nat.le_of_ble_eq_true rfl⟩) hS (fun q _ h => hFc q h) hFc (fun r_17 u t H_16 locs ht hvm hw_18 hB hz1 hk1 hS => ?_)
        have hP := z_pure hP hk1
        have hP : va_P (dC, dI) vwCl [(h0, .inr (10, [.ref h1, .int tt, h0_2, h0_3, h0_4, .int ts, .int te, .int to, .int tg, h0_9, h0_10])), (h1, .inl (ch1, 700, .inl fh1))] H_16 := hP
        have hD : va_D (fun _ => True) [(h0, .inr (10, [.ref h1, .int tt, h0_2, h0_3, h0_4, .int ts, .int te, .int to, .int tg, h0_9, h0_10])), (h1, .inl (ch1, 700, .inl fh1))] := hD
        clear hPc hDc hKc
        have hPc := hP.sub (ws' := []) [] rfl
        have hDc := hD.sub (ws' := []) [] (by decide) rfl
        have hKc := hK.sub (tys' := []) [] rfl
        have hFc := va_free (ws := []) (wc := []) (z_D0 _) hS hA [] rfl
        refine va_calli (va_runS (As := [.int r_17]) (rest := []) ⟨hx, hb, hml, hown, hts⟩ (s_X10_isDigit3 l dC dI H_16.size r_17) (va_cwS 1 hts gw_s_X10_numberBehind_1_s_X10_isDigit3_64 rfl rfl rfl (by decide +kernel) ⟨Nat.le_of_ble_eq_true rfl, Nat.le_of_ble_eq_true rfl⟩) ⟨z_blind, z_pre hPc hKc hDc⟩ rfl rfl hl.1 rfl (lv_room (Nat.le_of_ble_eq_true rfl)) dX10_numberBehind_43 ⟨Nat.le_of_ble_eq_true rfl, Nat.le_of_ble_eq_true rfl⟩) hS (fun q _ h => hFc q h) hFc (fun r_20 u t H_19 locs ht hvm hw_21 hB hz1 hk1 hS => ?_)
        have hP := z_pure hP hk1
        have hP : va_P (dC, dI) vwCl [(h0, .inr (10, [.ref h1, .int tt, h0_2, h0_3, h0_4, .int ts, .int te, .int to, .int tg, h0_9, h0_10])), (h1, .inl (ch1, 700, .inl fh1))] H_19 := hP
        have hD : va_D (fun _ => True) [(h0, .inr (10, [.ref h1, .int tt, h0_2, h0_3, h0_4, .int ts, .int te, .int to, .int tg, h0_9, h0_10])), (h1, .inl (ch1, 700, .inl fh1))] := hD
        clear hPc hDc hKc
        rcases hw_21 with ⟨rfl, hw_21⟩ | ⟨rfl, hw_21⟩
        · have hw_21 : f_di r_17.toInt := hw_21
          refine lv_if_ne (tgt := 51) hx hb dX10_numberBehind_46 (by decide) (fun _ => ?_) (fun c_22 => absurd c_22 (by decide))
          refine lv_aload_n hx hb dX10_numberBehind_51 rfl (lv_at hl 0 rfl) ?_
          refine lv_aload_n hx hb dX10_numberBehind_52 rfl (lv_at hl 0 rfl) ?_
          refine va_get (D := (dC, dI)) (ci := 10) (v := .int ts) (C := RX10) (T := TX10) (N := 11) hx hb hts hiX10 hown hK hP 0 rfl rfl 5 (by decide) w__fieldLink_RX10_29_ShellHeap_Tape_start_I_ (fun _ h9 => h9) rfl dX10_numberBehind_53 ?_
          refine lv_iconst (v := 1) hx hb dX10_numberBehind_56 (by decide) ?_
          refine lv_iadd hx hb dX10_numberBehind_57 ?_
          refine lv_topi (fun z_23 ez_23 => ?_)
          have kz_23 : (z_23).toInt = (ts).toInt + (1 : Int) := by rw [ez_23]; exact z_add (a := (ts).toInt) (b := (1 : Int)) rfl rfl (by omega) (by omega)
          have hnb : f_run f_di fh1 (tt).toInt (z_23).toInt (te).toInt ∧ f_tk fh1 (tt).toInt (ts).toInt 1 (f_v (f_nm fh1 (z_23).toInt (te).toInt)) (te).toInt := by
            rw [show (z_23).toInt = (ts).toInt + 1 by omega]
            refine f_nb (Or.inl ⟨rfl, rfl⟩) hC (by omega) (by omega) ?_ ?_
            · exact ((congrArg Int32.toInt (hw_10.2.1 (by omega) (by omega))).symm.trans (by first | omega | decide))
            · rw [show (ts).toInt + 1 = (z_15).toInt by omega]; exact f_atb (hw_18.2.1 (by omega) (by omega)) hw_21
          have hPc := hP.sub (ws' := [(h0, .inr (10, [.ref h1, .int tt, h0_2, h0_3, h0_4, .int ts, .int te, .int to, .int tg, h0_9, h0_10])), (h1, .inl (ch1, 700, .inl fh1))]) [0, 1] rfl
          have hDc := hD.sub (ws' := [(h0, .inr (10, [.ref h1, .int tt, h0_2, h0_3, h0_4, .int ts, .int te, .int to, .int tg, h0_9, h0_10])), (h1, .inl (ch1, 700, .inl fh1))]) [0, 1] (by decide) rfl
          have hKc := hK.sub (tys' := [(ch1, .int)]) [0] rfl
          have hFc := va_free (ws := []) (wc := []) (z_D0 _) hS hA [] rfl
          refine va_calli (va_runV (As := [.int z_23]) (rest := []) ⟨hx, hb, hml, hown, hts⟩ (s_X10_numberFrom3 l dC dI H_19.size h0 z_23 h1 tt h0_2 h0_3 h0_4 (.int ts) te (.int to) (.int tg) h0_9 h0_10 ch1 fh1 (by first | omega | decide) (by first | omega | decide) (by first | omega | decide) hI_h1 (f_run_pre hnb.1) (by first | omega | decide)) (cwV 1 hts gw_s_X10_numberBehind_1_s_X10_numberFrom3_80 rfl rfl rfl (by decide +kernel) ⟨Nat.le_of_ble_eq_true rfl, Nat.le_of_ble_eq_true rfl⟩) ⟨z_blind, va_recv hKc hPc (ci := 10) (q0 := 0) rfl rfl, z_pre hPc hKc hDc⟩ rfl rfl hl.1 rfl (lv_room (Nat.le_of_ble_eq_true rfl)) dX10_numberBehind_58 ⟨Nat.le_of_ble_eq_true rfl, Nat.le_of_ble_eq_true rfl⟩) hS (fun q _ h => hFc q h) hFc (fun r_25 u t H_24 locs ht hvm hw_26 hB hz1 hk1 hS => ?_)
          have hP := z_pure hP hk1
          have hP : va_P (dC, dI) vwCl [(h0, .inr (10, [.ref h1, .int tt, h0_2, h0_3, h0_4, .int ts, .int te, .int to, .int tg, h0_9, h0_10])), (h1, .inl (ch1, 700, .inl fh1))] H_24 := hP
          have hD : va_D (fun _ => True) [(h0, .inr (10, [.ref h1, .int tt, h0_2, h0_3, h0_4, .int ts, .int te, .int to, .int tg, h0_9, h0_10])), (h1, .inl (ch1, 700, .inl fh1))] := hD
          clear hPc hDc hKc
          refine W.widen (k := 0) (n := 0) (Nat.le_of_ble_eq_true rfl) (Nat.le_of_ble_eq_true rfl) ?_
          exact W.iret (v := r_25) hx hb hr (fun t ht hW => ⟨⟨r_25, (), rfl, (show ((-1 : Int) ≤ (r_25).toInt ∧ (r_25).toInt ≤ (1000000 : Int)) ∧ f_nbA fh1 tt.toInt ts.toInt te.toInt 1 (r_25).toInt from ⟨by omega, Or.inr ⟨by omega, by rw [hw_26.2]; exact hnb.2⟩⟩), trivial⟩, hS.F ht⟩) hS.2.2 dX10_numberBehind_61
        · have hw_21 : ¬ f_di r_17.toInt := hw_21
          refine lv_if_ne (tgt := 51) hx hb dX10_numberBehind_46 (by decide) (fun c_27 => absurd c_27 (by decide)) (fun _ => ?_)
          refine lv_iconst (v := (-1)) hx hb dX10_numberBehind_49 (by decide) ?_
          refine W.widen (k := 0) (n := 0) (Nat.le_of_ble_eq_true rfl) (Nat.le_of_ble_eq_true rfl) ?_
          exact W.iret (v := (-1)) hx hb hr (fun t ht hW => ⟨⟨(-1), (), rfl, (show ((-1 : Int) ≤ (-1 : Int) ∧ (-1 : Int) ≤ (1000000 : Int)) ∧ f_nbA fh1 tt.toInt ts.toInt te.toInt 1 (-1 : Int) from ⟨by decide, Or.inl ⟨rfl, fun k8 v8 b8 ht8 => f_nbn (c := 107) (Or.inl ⟨rfl, rfl⟩) hC (Or.inr (Or.inr (Or.inr (by rw [show (ts).toInt + 1 = (z_15).toInt by omega]; exact f_atn (hw_18.2.1 (by omega) (by omega)) hw_21)))) ht8⟩⟩), trivial⟩, hS.F ht⟩) hS.2.2 dX10_numberBehind_50
def u_s_X10_numberBehind_2 : List Cond := .code yX10_numberBehind cX10_numberBehind 2 (some .int) :: ([.fieldLink RX10 35 "ShellHeap$Tape" "sort" "I", .fieldLink RX10 32 "ShellHeap$Tape" "end" "I", .fieldLink RX10 29 "ShellHeap$Tape" "start" "I", .methodLink RX10 50 yX10_byteAt, .instanceMethod yX10_byteAt, .selects RX10 yX10_byteAt yX10_byteAt, .initialized RX10, .code yX10_byteAt cX10_byteAt 2 (some .int), .fieldLink RX10 15 "ShellHeap$Tape" "text" "I", .fieldLink RX10 11 "ShellHeap$Tape" "bytes" "[I", .methodLink RX10 64 yX10_isDigit, .static yX10_isDigit, .code yX10_isDigit cX10_isDigit 1 (some .boolean), .methodLink RX10 80 yX10_numberFrom, .instanceMethod yX10_numberFrom, .selects RX10 yX10_numberFrom yX10_numberFrom, .code yX10_numberFrom cX10_numberFrom 4 (some .int), .constant RX10 83 (1000000), .methodLink RX10 84 Lib.Math.min.name, .static Lib.Math.min.name, .initialized "java/lang/Math", .code Lib.Math.min.name Lib.Math.min.code 2 (some .int)] ++ wsX100)
set_option maxRecDepth 20000 in
theorem gw_s_X10_numberBehind_2_s_X10_byteAt4_50 : GoodIn u_s_X10_numberBehind_2 (wsV RX10 50 RX10 yX10_byteAt u_s_X10_byteAt4) := z_gr _ [4, 5, 6, 7, 8, 9, 10, 23, 24, 25, 26, 27, 28, 29, 30, 31, 32, 33] rfl (by decide +kernel)
set_option maxRecDepth 20000 in
theorem gw_s_X10_numberBehind_2_s_X10_isDigit3_64 : GoodIn u_s_X10_numberBehind_2 (va_wsS RX10 64 yX10_isDigit u_s_X10_isDigit3) := z_gr _ [11, 12, 7, 13] rfl (by decide +kernel)
set_option maxRecDepth 20000 in
theorem gw_s_X10_numberBehind_2_s_X10_numberFrom3_80 : GoodIn u_s_X10_numberBehind_2 (wsV RX10 80 RX10 yX10_numberFrom u_s_X10_numberFrom3) := z_gr _ [14, 15, 16, 7, 17, 2, 4, 5, 6, 7, 8, 9, 10, 18, 19, 20, 21, 22, 23, 24, 25, 26, 27, 28, 29, 30, 31, 32, 33] rfl (by decide +kernel)
set_option maxHeartbeats 4000000 in
set_option maxRecDepth 100000 in
theorem s_X10_numberBehind_2 (l : Launch) (dC : Nat → ClassId) (dI : Nat → Nat → Nat) (sz : Nat) (h0 : Nat) (h1 : Nat) (tt : Int32) (h0_2 : Value) (h0_3 : Value) (h0_4 : Value) (ts : Int32) (te : Int32) (to : Int32) (tg : Int32) (h0_9 : Value) (h0_10 : Value) (ch1 : ClassId) (fh1 : Nat → Int32) (hB_tt : ((0 : Int) ≤ (tt).toInt ∧ (tt).toInt ≤ (700 : Int))) (hB_ts : ((0 : Int) ≤ (ts).toInt ∧ (ts).toInt ≤ (700 : Int))) (hB_te : ((0 : Int) ≤ (te).toInt ∧ (te).toInt ≤ (700 : Int))) (hI_h1 : ∀ j : Nat, ((0 : Int) ≤ (fh1 j).toInt ∧ (fh1 j).toInt ≤ (255 : Int))) (hC : f_C fh1 tt.toInt to.toInt tg.toInt ts.toInt te.toInt) (het : te.toInt ≤ tt.toInt) : Met l yX10_numberBehind u_s_X10_numberBehind_2 ({ frames := 2, cells := 0, slots := 0, locals := 44 }) (va_Pc [.ref h0, .int 115] (z_C (dC, dI) vwCl [(h0, .inr (10, [.ref h1, .int tt, h0_2, h0_3, h0_4, .int ts, .int te, .int to, .int tg, h0_9, h0_10])), (h1, .inl (ch1, 700, .inl fh1))] [(ch1, .int)] sz)) (va_Qi (fun (r : Int32) (_ : Unit) => ((-1 : Int) ≤ (r).toInt ∧ (r).toInt ≤ (1000000 : Int)) ∧ f_nbA fh1 tt.toInt ts.toInt te.toInt 2 (r).toInt) (fun (_ : Unit) (_ : State) => True) (va_A [] sz)) 0 0 (va_A [] sz) := by
  refine Met.ofW (cc := cX10_numberBehind) (maxL := 2) (ret := (some .int)) (by decide) rfl ?_
  intro p e s m args below meth c s₁ B hml hv
  obtain ⟨rfl, hsz, hP, hK, hD0⟩ := hv
  have hx := B.exec
  have hb := B.bytes
  have hr := B.returns
  have hts := atoms_spec (ws := u_s_X10_numberBehind_2) B.pre
  have hown : s.vm.findClass RX10 = some m.cls := findClass_of_methodNamed B.named
  have hlocks := B.notSynchronized
  subst hsz
  have hD := hD0
  generalize hAe : va_A [] s.heap.size = A
  have hA : ∀ q : Nat, s.heap.size ≤ q → A q := fun q h => by rw [← hAe]; exact Or.inr h
  have hS : va_S A s.heap s.heap [] := va_S.rf
  have hP : va_P (dC, dI) vwCl [(h0, .inr (10, [.ref h1, .int tt, h0_2, h0_3, h0_4, .int ts, .int te, .int to, .int tg, h0_9, h0_10])), (h1, .inl (ch1, 700, .inl fh1))] s.heap := hP
  have w__fieldLink_RX10_35_ShellHeap_Tape_sort_I_ := hts (.fieldLink RX10 35 "ShellHeap$Tape" "sort" "I") (by decide +kernel)
  have hiX10 := show ∀ w ∈ u_ws RX10 TX10 11, w ∈ u_s_X10_numberBehind_2 by decide +kernel
  have w__fieldLink_RX10_32_ShellHeap_Tape_end_I_ := hts (.fieldLink RX10 32 "ShellHeap$Tape" "end" "I") (by decide +kernel)
  have w__fieldLink_RX10_29_ShellHeap_Tape_start_I_ := hts (.fieldLink RX10 29 "ShellHeap$Tape" "start" "I") (by decide +kernel)
  have hl := lv_entry ([.ref h0, .int 115]) (n := 2) (Nat.le_of_ble_eq_true rfl)
  rw [lg_entry_eq]
  generalize (lg_sl ([.ref h0, .int 115]) ++ List.replicate (2 - (lg_sl ([.ref h0, .int 115])).length) Slot.unset).toArray = ls at hl ⊢
  have hl : lv_has ls 2 [(0, .ref h0), (1, .int 115)] := hl
  refine lv_aload_n hx hb dX10_numberBehind_0 rfl (lv_at hl 0 rfl) ?_
  refine va_get (D := (dC, dI)) (ci := 10) (v := .int to) (C := RX10) (T := TX10) (N := 11) hx hb hts hiX10 hown hK hP 0 rfl rfl 7 (by decide) w__fieldLink_RX10_35_ShellHeap_Tape_sort_I_ (fun _ h9 => h9) rfl dX10_numberBehind_1 ?_
  refine lv_iconst (v := 1) hx hb dX10_numberBehind_4 (by decide) ?_
  refine lv_icmp_ne (tgt := 49) hx hb dX10_numberBehind_5 (by decide) (fun c_1 => ?_) (fun c_1 => ?_)
  · have k_2 : (to).toInt ≠ (1 : Int) := z_ne c_1
    refine lv_iconst (v := (-1)) hx hb dX10_numberBehind_49 (by decide) ?_
    refine W.widen (k := 0) (n := 0) (Nat.le_of_ble_eq_true rfl) (Nat.le_of_ble_eq_true rfl) ?_
    exact W.iret (v := (-1)) hx hb hr (fun t ht hW => ⟨⟨(-1), (), rfl, (show ((-1 : Int) ≤ (-1 : Int) ∧ (-1 : Int) ≤ (1000000 : Int)) ∧ f_nbA fh1 tt.toInt ts.toInt te.toInt 2 (-1 : Int) from ⟨by decide, Or.inl ⟨rfl, fun k8 v8 b8 ht8 => f_nbn (c := 115) (Or.inr ⟨rfl, rfl⟩) hC (by first | exact Or.inl (by omega) | exact Or.inr (Or.inl (by omega))) ht8⟩⟩), trivial⟩, hS.F ht⟩) hS.2.2 dX10_numberBehind_50
  · have k_3 : (to).toInt = (1 : Int) := z_eq c_1
    refine lv_aload_n hx hb dX10_numberBehind_8 rfl (lv_at hl 0 rfl) ?_
    refine va_get (D := (dC, dI)) (ci := 10) (v := .int te) (C := RX10) (T := TX10) (N := 11) hx hb hts hiX10 hown hK hP 0 rfl rfl 6 (by decide) w__fieldLink_RX10_32_ShellHeap_Tape_end_I_ (fun _ h9 => h9) rfl dX10_numberBehind_9 ?_
    refine lv_aload_n hx hb dX10_numberBehind_12 rfl (lv_at hl 0 rfl) ?_
    refine va_get (D := (dC, dI)) (ci := 10) (v := .int ts) (C := RX10) (T := TX10) (N := 11) hx hb hts hiX10 hown hK hP 0 rfl rfl 5 (by decide) w__fieldLink_RX10_29_ShellHeap_Tape_start_I_ (fun _ h9 => h9) rfl dX10_numberBehind_13 ?_
    refine lv_isub hx hb dX10_numberBehind_16 ?_
    refine lv_topi (fun z_4 ez_4 => ?_)
    have kz_4 : (z_4).toInt = (te).toInt - (ts).toInt := by rw [ez_4]; exact z_sub (a := (te).toInt) (b := (ts).toInt) rfl rfl (by omega) (by omega)
    refine lv_iconst (v := 2) hx hb dX10_numberBehind_17 (by decide) ?_
    refine lv_icmp_lt (tgt := 49) hx hb dX10_numberBehind_18 (by decide) (fun c_5 => ?_) (fun c_5 => ?_)
    · have k_6 : (z_4).toInt < (2 : Int) := z_lt c_5
      refine lv_iconst (v := (-1)) hx hb dX10_numberBehind_49 (by decide) ?_
      refine W.widen (k := 0) (n := 0) (Nat.le_of_ble_eq_true rfl) (Nat.le_of_ble_eq_true rfl) ?_
      exact W.iret (v := (-1)) hx hb hr (fun t ht hW => ⟨⟨(-1), (), rfl, (show ((-1 : Int) ≤ (-1 : Int) ∧ (-1 : Int) ≤ (1000000 : Int)) ∧ f_nbA fh1 tt.toInt ts.toInt te.toInt 2 (-1 : Int) from ⟨by decide, Or.inl ⟨rfl, fun k8 v8 b8 ht8 => f_nbn (c := 115) (Or.inr ⟨rfl, rfl⟩) hC (by first | exact Or.inl (by omega) | exact Or.inr (Or.inl (by omega))) ht8⟩⟩), trivial⟩, hS.F ht⟩) hS.2.2 dX10_numberBehind_50
    · have k_7 : (z_4).toInt ≥ (2 : Int) := z_nlt c_5
      refine lv_aload_n hx hb dX10_numberBehind_21 rfl (lv_at hl 0 rfl) ?_
      refine lv_aload_n hx hb dX10_numberBehind_22 rfl (lv_at hl 0 rfl) ?_
      refine va_get (D := (dC, dI)) (ci := 10) (v := .int ts) (C := RX10) (T := TX10) (N := 11) hx hb hts hiX10 hown hK hP 0 rfl rfl 5 (by decide) w__fieldLink_RX10_29_ShellHeap_Tape_start_I_ (fun _ h9 => h9) rfl dX10_numberBehind_23 ?_
      have hPc := hP.sub (ws' := [(h0, .inr (10, [.ref h1, .int tt, h0_2, h0_3, h0_4, .int ts, .int te, .int to, .int tg, h0_9, h0_10])), (h1, .inl (ch1, 700, .inl fh1))]) [0, 1] rfl
      have hDc := hD.sub (ws' := [(h0, .inr (10, [.ref h1, .int tt, h0_2, h0_3, h0_4, .int ts, .int te, .int to, .int tg, h0_9, h0_10])), (h1, .inl (ch1, 700, .inl fh1))]) [0, 1] (by decide) rfl
      have hKc := hK.sub (tys' := [(ch1, .int)]) [0] rfl
      have hFc := va_free (ws := []) (wc := []) (z_D0 _) hS hA [] rfl
      refine va_calli (va_runV (As := [.int ts]) (rest := []) ⟨hx, hb, hml, hown, hts⟩ (s_X10_byteAt4 l dC dI s.heap.size h0 ts h1 tt h0_2 h0_3 h0_4 (.int ts) (.int te) (.int to) (.int tg) h0_9 h0_10 ch1 fh1 (by first | omega | decide) hI_h1) (cwV 1 hts gw_s_X10_numberBehind_2_s_X10_byteAt4_50 rfl rfl rfl (by decide +kernel) ⟨Nat.le_of_ble_eq_true rfl, Nat.le_of_ble_eq_true rfl⟩) ⟨z_blind, va_recv hKc hPc (ci := 10) (q0 := 0) rfl rfl, z_pre hPc hKc hDc⟩ rfl rfl hl.1 rfl (lv_room (Nat.le_of_ble_eq_true rfl)) dX10_numberBehind_26 ⟨Nat.le_of_ble_eq_true rfl, Nat.le_of_ble_eq_true rfl⟩) hS (fun q _ h => hFc q h) hFc (fun r_9 u t H_8 locs ht hvm hw_10 hB hz1 hk1 hS => ?_)
      have hP := z_pure hP hk1
      have hP : va_P (dC, dI) vwCl [(h0, .inr (10, [.ref h1, .int tt, h0_2, h0_3, h0_4, .int ts, .int te, .int to, .int tg, h0_9, h0_10])), (h1, .inl (ch1, 700, .inl fh1))] H_8 := hP
      have hD : va_D (fun _ => True) [(h0, .inr (10, [.ref h1, .int tt, h0_2, h0_3, h0_4, .int ts, .int te, .int to, .int tg, h0_9, h0_10])), (h1, .inl (ch1, 700, .inl fh1))] := hD
      clear hPc hDc hKc
      refine lv_iload_n hx hb dX10_numberBehind_29 rfl (lv_at hl 1 rfl) ?_
      refine lv_icmp_ne (tgt := 49) hx hb dX10_numberBehind_30 (by decide) (fun c_11 => ?_) (fun c_11 => ?_)
      · have k_12 : (r_9).toInt ≠ (115 : Int) := z_ne c_11
        refine lv_iconst (v := (-1)) hx hb dX10_numberBehind_49 (by decide) ?_
        refine W.widen (k := 0) (n := 0) (Nat.le_of_ble_eq_true rfl) (Nat.le_of_ble_eq_true rfl) ?_
        exact W.iret (v := (-1)) hx hb hr (fun t ht hW => ⟨⟨(-1), (), rfl, (show ((-1 : Int) ≤ (-1 : Int) ∧ (-1 : Int) ≤ (1000000 : Int)) ∧ f_nbA fh1 tt.toInt ts.toInt te.toInt 2 (-1 : Int) from ⟨by decide, Or.inl ⟨rfl, fun k8 v8 b8 ht8 => f_nbn (c := 115) (Or.inr ⟨rfl, rfl⟩) hC (Or.inr (Or.inr (Or.inl (fun q9 => absurd ((congrArg Int32.toInt (hw_10.2.1 (by omega) (by omega))).trans q9) (by omega))))) ht8⟩⟩), trivial⟩, hS.F ht⟩) hS.2.2 dX10_numberBehind_50
      · have k_13 : (r_9).toInt = (115 : Int) := z_eq c_11
        obtain rfl : r_9 = 115 := z_eq' (show (r_9).toInt = (115 : Int) by omega)
        refine lv_aload_n hx hb dX10_numberBehind_33 rfl (lv_at hl 0 rfl) ?_
        refine lv_aload_n hx hb dX10_numberBehind_34 rfl (lv_at hl 0 rfl) ?_
        refine va_get (D := (dC, dI)) (ci := 10) (v := .int ts) (C := RX10) (T := TX10) (N := 11) hx hb hts hiX10 hown hK hP 0 rfl rfl 5 (by decide) w__fieldLink_RX10_29_ShellHeap_Tape_start_I_ (fun _ h9 => h9) rfl dX10_numberBehind_35 ?_
        refine lv_iconst (v := 1) hx hb dX10_numberBehind_38 (by decide) ?_
        refine lv_iadd hx hb dX10_numberBehind_39 ?_
        refine lv_topi (fun z_15 ez_15 => ?_)
        have kz_15 : (z_15).toInt = (ts).toInt + (1 : Int) := by rw [ez_15]; exact z_add (a := (ts).toInt) (b := (1 : Int)) rfl rfl (by omega) (by omega)
        have hPc := hP.sub (ws' := [(h0, .inr (10, [.ref h1, .int tt, h0_2, h0_3, h0_4, .int ts, .int te, .int to, .int tg, h0_9, h0_10])), (h1, .inl (ch1, 700, .inl fh1))]) [0, 1] rfl
        have hDc := hD.sub (ws' := [(h0, .inr (10, [.ref h1, .int tt, h0_2, h0_3, h0_4, .int ts, .int te, .int to, .int tg, h0_9, h0_10])), (h1, .inl (ch1, 700, .inl fh1))]) [0, 1] (by decide) rfl
        have hKc := hK.sub (tys' := [(ch1, .int)]) [0] rfl
        have hFc := va_free (ws := []) (wc := []) (z_D0 _) hS hA [] rfl
        refine va_calli (va_runV (As := [.int z_15]) (rest := []) ⟨hx, hb, hml, hown, hts⟩ (s_X10_byteAt4 l dC dI H_8.size h0 z_15 h1 tt h0_2 h0_3 h0_4 (.int ts) (.int te) (.int to) (.int tg) h0_9 h0_10 ch1 fh1 (by first | omega | decide) hI_h1) (cwV 1 hts gw_s_X10_numberBehind_2_s_X10_byteAt4_50 rfl rfl rfl (by decide +kernel) ⟨Nat.le_of_ble_eq_true rfl, Nat.le_of_ble_eq_true rfl⟩) ⟨z_blind, va_recv hKc hPc (ci := 10) (q0 := 0) rfl rfl, z_pre hPc hKc hDc⟩ rfl rfl hl.1 rfl (lv_room (Nat.le_of_ble_eq_true rfl)) dX10_numberBehind_40 ⟨Nat.le_of_ble_eq_true rfl, Nat.le_of_ble_eq_true rfl⟩) hS (fun q _ h => hFc q h) hFc (fun r_17 u t H_16 locs ht hvm hw_18 hB hz1 hk1 hS => ?_)
        have hP := z_pure hP hk1
        have hP : va_P (dC, dI) vwCl [(h0, .inr (10, [.ref h1, .int tt, h0_2, h0_3, h0_4, .int ts, .int te, .int to, .int tg, h0_9, h0_10])), (h1, .inl (ch1, 700, .inl fh1))] H_16 := hP
        have hD : va_D (fun _ => True) [(h0, .inr (10, [.ref h1, .int tt, h0_2, h0_3, h0_4, .int ts, .int te, .int to, .int tg, h0_9, h0_10])), (h1, .inl (ch1, 700, .inl fh1))] := hD
        clear hPc hDc hKc
        have hPc := hP.sub (ws' := []) [] rfl
        have hDc := hD.sub (ws' := []) [] (by decide) rfl
        have hKc := hK.sub (tys' := []) [] rfl
        have hFc := va_free (ws := []) (wc := []) (z_D0 _) hS hA [] rfl
        refine va_calli (va_runS (As := [.int r_17]) (rest := []) ⟨hx, hb, hml, hown, hts⟩ (s_X10_isDigit3 l dC dI H_16.size r_17) (va_cwS 1 hts gw_s_X10_numberBehind_2_s_X10_isDigit3_64 rfl rfl rfl (by decide +kernel) ⟨Nat.le_of_ble_eq_true rfl, Nat.le_of_ble_eq_true rfl⟩) ⟨z_blind, z_pre hPc hKc hDc⟩ rfl rfl hl.1 rfl (lv_room (Nat.le_of_ble_eq_true rfl)) dX10_numberBehind_43 ⟨Nat.le_of_ble_eq_true rfl, Nat.le_of_ble_eq_true rfl⟩) hS (fun q _ h => hFc q h) hFc (fun r_20 u t H_19 locs ht hvm hw_21 hB hz1 hk1 hS => ?_)
        have hP := z_pure hP hk1
        have hP : va_P (dC, dI) vwCl [(h0, .inr (10, [.ref h1, .int tt, h0_2, h0_3, h0_4, .int ts, .int te, .int to, .int tg, h0_9, h0_10])), (h1, .inl (ch1, 700, .inl fh1))] H_19 := hP
        have hD : va_D (fun _ => True) [(h0, .inr (10, [.ref h1, .int tt, h0_2, h0_3, h0_4, .int ts, .int te, .int to, .int tg, h0_9, h0_10])), (h1, .inl (ch1, 700, .inl fh1))] := hD
        clear hPc hDc hKc
        rcases hw_21 with ⟨rfl, hw_21⟩ | ⟨rfl, hw_21⟩
        · have hw_21 : f_di r_17.toInt := hw_21
          refine lv_if_ne (tgt := 51) hx hb dX10_numberBehind_46 (by decide) (fun _ => ?_) (fun c_22 => absurd c_22 (by decide))
          refine lv_aload_n hx hb dX10_numberBehind_51 rfl (lv_at hl 0 rfl) ?_
          refine lv_aload_n hx hb dX10_numberBehind_52 rfl (lv_at hl 0 rfl) ?_
          refine va_get (D := (dC, dI)) (ci := 10) (v := .int ts) (C := RX10) (T := TX10) (N := 11) hx hb hts hiX10 hown hK hP 0 rfl rfl 5 (by decide) w__fieldLink_RX10_29_ShellHeap_Tape_start_I_ (fun _ h9 => h9) rfl dX10_numberBehind_53 ?_
          refine lv_iconst (v := 1) hx hb dX10_numberBehind_56 (by decide) ?_
          refine lv_iadd hx hb dX10_numberBehind_57 ?_
          refine lv_topi (fun z_23 ez_23 => ?_)
          have kz_23 : (z_23).toInt = (ts).toInt + (1 : Int) := by rw [ez_23]; exact z_add (a := (ts).toInt) (b := (1 : Int)) rfl rfl (by omega) (by omega)
          have hnb : f_run f_di fh1 (tt).toInt (z_23).toInt (te).toInt ∧ f_tk fh1 (tt).toInt (ts).toInt 2 (f_v (f_nm fh1 (z_23).toInt (te).toInt)) (te).toInt := by
            rw [show (z_23).toInt = (ts).toInt + 1 by omega]
            refine f_nb (Or.inr ⟨rfl, rfl⟩) hC (by omega) (by omega) ?_ ?_
            · exact ((congrArg Int32.toInt (hw_10.2.1 (by omega) (by omega))).symm.trans (by first | omega | decide))
            · rw [show (ts).toInt + 1 = (z_15).toInt by omega]; exact f_atb (hw_18.2.1 (by omega) (by omega)) hw_21
          have hPc := hP.sub (ws' := [(h0, .inr (10, [.ref h1, .int tt, h0_2, h0_3, h0_4, .int ts, .int te, .int to, .int tg, h0_9, h0_10])), (h1, .inl (ch1, 700, .inl fh1))]) [0, 1] rfl
          have hDc := hD.sub (ws' := [(h0, .inr (10, [.ref h1, .int tt, h0_2, h0_3, h0_4, .int ts, .int te, .int to, .int tg, h0_9, h0_10])), (h1, .inl (ch1, 700, .inl fh1))]) [0, 1] (by decide) rfl
          have hKc := hK.sub (tys' := [(ch1, .int)]) [0] rfl
          have hFc := va_free (ws := []) (wc := []) (z_D0 _) hS hA [] rfl
          refine va_calli (va_runV (As := [.int z_23]) (rest := []) ⟨hx, hb, hml, hown, hts⟩ (s_X10_numberFrom3 l dC dI H_19.size h0 z_23 h1 tt h0_2 h0_3 h0_4 (.int ts) te (.int to) (.int tg) h0_9 h0_10 ch1 fh1 (by first | omega | decide) (by first | omega | decide) (by first | omega | decide) hI_h1 (f_run_pre hnb.1) (by first | omega | decide)) (cwV 1 hts gw_s_X10_numberBehind_2_s_X10_numberFrom3_80 rfl rfl rfl (by decide +kernel) ⟨Nat.le_of_ble_eq_true rfl, Nat.le_of_ble_eq_true rfl⟩) ⟨z_blind, va_recv hKc hPc (ci := 10) (q0 := 0) rfl rfl, z_pre hPc hKc hDc⟩ rfl rfl hl.1 rfl (lv_room (Nat.le_of_ble_eq_true rfl)) dX10_numberBehind_58 ⟨Nat.le_of_ble_eq_true rfl, Nat.le_of_ble_eq_true rfl⟩) hS (fun q _ h => hFc q h) hFc (fun r_25 u t H_24 locs ht hvm hw_26 hB hz1 hk1 hS => ?_)
          have hP := z_pure hP hk1
          have hP : va_P (dC, dI) vwCl [(h0, .inr (10, [.ref h1, .int tt, h0_2, h0_3, h0_4, .int ts, .int te, .int to, .int tg, h0_9, h0_10])), (h1, .inl (ch1, 700, .inl fh1))] H_24 := hP
          have hD : va_D (fun _ => True) [(h0, .inr (10, [.ref h1, .int tt, h0_2, h0_3, h0_4, .int ts, .int te, .int to, .int tg, h0_9, h0_10])), (h1, .inl (ch1, 700, .inl fh1))] := hD
          clear hPc hDc hKc
          refine W.widen (k := 0) (n := 0) (Nat.le_of_ble_eq_true rfl) (Nat.le_of_ble_eq_true rfl) ?_
          exact W.iret (v := r_25) hx hb hr (fun t ht hW => ⟨⟨r_25, (), rfl, (show ((-1 : Int) ≤ (r_25).toInt ∧ (r_25).toInt ≤ (1000000 : Int)) ∧ f_nbA fh1 tt.toInt ts.toInt te.toInt 2 (r_25).toInt from ⟨by omega, Or.inr ⟨by omega, by rw [hw_26.2]; exact hnb.2⟩⟩), trivial⟩, hS.F ht⟩) hS.2.2 dX10_numberBehind_61
        · have hw_21 : ¬ f_di r_17.toInt := hw_21
          refine lv_if_ne (tgt := 51) hx hb dX10_numberBehind_46 (by decide) (fun c_27 => absurd c_27 (by decide)) (fun _ => ?_)
          refine lv_iconst (v := (-1)) hx hb dX10_numberBehind_49 (by decide) ?_
          refine W.widen (k := 0) (n := 0) (Nat.le_of_ble_eq_true rfl) (Nat.le_of_ble_eq_true rfl) ?_
          exact W.iret (v := (-1)) hx hb hr (fun t ht hW => ⟨⟨(-1), (), rfl, (show ((-1 : Int) ≤ (-1 : Int) ∧ (-1 : Int) ≤ (1000000 : Int)) ∧ f_nbA fh1 tt.toInt ts.toInt te.toInt 2 (-1 : Int) from ⟨by decide, Or.inl ⟨rfl, fun k8 v8 b8 ht8 => f_nbn (c := 115) (Or.inr ⟨rfl, rfl⟩) hC (Or.inr (Or.inr (Or.inr (by rw [show (ts).toInt + 1 = (z_15).toInt by omega]; exact f_atn (hw_18.2.1 (by omega) (by omega)) hw_21)))) ht8⟩⟩), trivial⟩, hS.F ht⟩) hS.2.2 dX10_numberBehind_50
def u_s_X10_wordIn3 : List Cond := .code yX10_wordIn cX10_wordIn 7 (some .int) :: ([.fieldLink RX10 35 "ShellHeap$Tape" "sort" "I", .fieldLink RX10 29 "ShellHeap$Tape" "start" "I", .methodLink RX10 70 yJ0_length_8abf5, .instanceMethod yJ0_length_8abf5, .selects RJ0 yJ0_length_8abf5 yJ0_length_8abf5, .initialized RJ0, .code yJ0_length_8abf5 cJ0_length_8abf5 1 (some .int), .fieldLink RJ0 9 "java/lang/String" "value" "[B", .methodLink RJ0 335 yJ0_coder_7d493, .instanceMethod yJ0_coder_7d493, .selects RJ0 yJ0_coder_7d493 yJ0_coder_7d493, .code yJ0_coder_7d493 cJ0_coder_7d493 1 (some .byte), .fieldLink RJ0 38 "java/lang/String" "COMPACT_STRINGS" "Z", .fieldLink RJ0 15 "java/lang/String" "coder" "B", .fieldLink RX10 32 "ShellHeap$Tape" "end" "I", .methodLink RX10 76 yJ0_charAt_5068e, .instanceMethod yJ0_charAt_5068e, .selects RJ0 yJ0_charAt_5068e yJ0_charAt_5068e, .code yJ0_charAt_5068e cJ0_charAt_5068e 2 (some .char), .methodLink RJ0 492 yJ0_isLatin1_aae02, .instanceMethod yJ0_isLatin1_aae02, .selects RJ0 yJ0_isLatin1_aae02 yJ0_isLatin1_aae02, .code yJ0_isLatin1_aae02 cJ0_isLatin1_aae02 1 (some .boolean), .methodLink RJ0 495 yJ1_charAt_3b067, .static yJ1_charAt_3b067, .initialized RJ1, .code yJ1_charAt_3b067 cJ1_charAt_3b067 2 (some .char), .methodLink RJ1 9 yJ0_checkIndex_df160, .static yJ0_checkIndex_df160, .code yJ0_checkIndex_df160 cJ0_checkIndex_df160 2 none, .fieldLink RJ0 1053 "jdk/internal/util/Preconditions" "SIOOBE_FORMATTER" "Ljava/util/function/BiFunction;", .methodLink RJ0 1059 yJ3_checkIndex_8e157, .static yJ3_checkIndex_8e157, .initialized RJ3, .code yJ3_checkIndex_8e157 cJ3_checkIndex_8e157 3 (some .int), .methodLink RX10 50 yX10_byteAt, .instanceMethod yX10_byteAt, .selects RX10 yX10_byteAt yX10_byteAt, .initialized RX10, .code yX10_byteAt cX10_byteAt 2 (some .int), .fieldLink RX10 15 "ShellHeap$Tape" "text" "I", .fieldLink RX10 11 "ShellHeap$Tape" "bytes" "[I"] ++ wsX100)
set_option maxRecDepth 20000 in
theorem gw_s_X10_wordIn3_s_J0_length_8abf5_70 : GoodIn u_s_X10_wordIn3 (wsV RX10 70 RJ0 yJ0_length_8abf5 u_s_J0_length_8abf5) := z_gr _ [3, 4, 5, 6, 7, 8, 9, 10, 11, 6, 12, 13, 14] rfl (by decide +kernel)
set_option maxRecDepth 20000 in
theorem gw_s_X10_wordIn3_s_J0_charAt_5068e_76 : GoodIn u_s_X10_wordIn3 (wsV RX10 76 RJ0 yJ0_charAt_5068e u_s_J0_charAt_5068e) := z_gr _ [16, 17, 18, 6, 19, 20, 21, 22, 6, 23, 13, 14, 8, 24, 25, 26, 27, 28, 29, 30, 31, 32, 33, 34, 35] rfl (by decide +kernel)
set_option maxRecDepth 20000 in
theorem gw_s_X10_wordIn3_s_X10_byteAt4_50 : GoodIn u_s_X10_wordIn3 (wsV RX10 50 RX10 yX10_byteAt u_s_X10_byteAt4) := z_gr _ [36, 37, 38, 39, 40, 41, 42, 43, 44, 45, 46, 47, 48, 49, 50, 51, 52, 53] rfl (by decide +kernel)
set_option maxHeartbeats 4000000 in
set_option maxRecDepth 100000 in
theorem s_X10_wordIn3 (l : Launch) (dC : Nat → ClassId) (dI : Nat → Nat → Nat) (sz : Nat) (sd : Nat → Nat) (sv : Nat → Nat) (sf : Value) (sx : Nat) (h0 : Nat) (h1 : Nat) (tt : Int32) (h0_2 : Value) (h0_3 : Value) (h0_4 : Value) (ts : Int32) (te : Int32) (to : Int32) (tg : Int32) (h0_9 : Value) (h0_10 : Value) (ch1 : ClassId) (fh1 : Nat → Int32) (hB_tt : ((0 : Int) ≤ (tt).toInt ∧ (tt).toInt ≤ (700 : Int))) (hB_ts : ((0 : Int) ≤ (ts).toInt ∧ (ts).toInt ≤ (700 : Int))) (hB_te : ((0 : Int) ≤ (te).toInt ∧ (te).toInt ≤ (700 : Int))) (hI_h1 : ∀ j : Nat, ((0 : Int) ≤ (fh1 j).toInt ∧ (fh1 j).toInt ≤ (255 : Int))) (hsx : sx < 7) (hs0 : sx = 0) (hC : f_C fh1 tt.toInt to.toInt tg.toInt ts.toInt te.toInt) (het : te.toInt ≤ tt.toInt) : Met l yX10_wordIn u_s_X10_wordIn3 ({ frames := 4, cells := 0, slots := 0, locals := 85 }) (va_Pc [.ref h0, .ref (sd sx)] (z_CS (dC, dI) vwCl [(h0, .inr (10, [.ref h1, .int tt, h0_2, h0_3, h0_4, .int ts, .int te, .int to, .int tg, h0_9, h0_10])), (h1, .inl (ch1, 700, .inl fh1))] [(ch1, .int)] sz sd sv sf [])) (va_Qi (fun (r : Int32) (_ : Unit) => ((-1 : Int) ≤ (r).toInt ∧ (r).toInt ≤ (5 : Int)) ∧ f_wiA fh1 tt.toInt ts.toInt te.toInt (r).toInt) (fun (_ : Unit) (_ : State) => True) (va_A [] sz)) 0 0 (va_A [] sz) := by
  refine Met.ofW (cc := cX10_wordIn) (maxL := 7) (ret := (some .int)) (by decide) rfl ?_
  intro p e s m args below meth c s₁ B hml hv
  obtain ⟨rfl, ⟨hsz, hP, hK, hD0⟩, hST⟩ := hv
  have hx := B.exec
  have hb := B.bytes
  have hr := B.returns
  have hts := atoms_spec (ws := u_s_X10_wordIn3) B.pre
  have hown : s.vm.findClass RX10 = some m.cls := findClass_of_methodNamed B.named
  have hlocks := B.notSynchronized
  subst hsz
  have hD := hD0
  generalize hAe : va_A [] s.heap.size = A at hST ⊢
  have hA : ∀ q : Nat, s.heap.size ≤ q → A q := fun q h => by rw [← hAe]; exact Or.inr h
  have hS : va_S A s.heap s.heap [] := va_S.rf
  have hP : va_P (dC, dI) vwCl [(h0, .inr (10, [.ref h1, .int tt, h0_2, h0_3, h0_4, .int ts, .int te, .int to, .int tg, h0_9, h0_10])), (h1, .inl (ch1, 700, .inl fh1))] s.heap := hP
  have w__fieldLink_RX10_35_ShellHeap_Tape_sort_I_ := hts (.fieldLink RX10 35 "ShellHeap$Tape" "sort" "I") (by decide +kernel)
  have hiX10 := show ∀ w ∈ u_ws RX10 TX10 11, w ∈ u_s_X10_wordIn3 by decide +kernel
  have w__fieldLink_RX10_29_ShellHeap_Tape_start_I_ := hts (.fieldLink RX10 29 "ShellHeap$Tape" "start" "I") (by decide +kernel)
  have w__fieldLink_RX10_32_ShellHeap_Tape_end_I_ := hts (.fieldLink RX10 32 "ShellHeap$Tape" "end" "I") (by decide +kernel)
  have hl := lv_entry ([.ref h0, .ref (sd sx)]) (n := 7) (Nat.le_of_ble_eq_true rfl)
  rw [lg_entry_eq]
  generalize (lg_sl ([.ref h0, .ref (sd sx)]) ++ List.replicate (7 - (lg_sl ([.ref h0, .ref (sd sx)])).length) Slot.unset).toArray = ls at hl ⊢
  have hl : lv_has ls 7 [(0, .ref h0), (1, .ref (sd sx))] := hl
  refine z_nameQ (fun QQ hQQ => ?_)
  have hlen := z_len_le hsx
  have hnw := z_nw_le hsx
  refine lv_aload_n hx hb dX10_wordIn_0 rfl (lv_at hl 0 rfl) ?_
  refine va_get (D := (dC, dI)) (ci := 10) (v := .int to) (C := RX10) (T := TX10) (N := 11) hx hb hts hiX10 hown hK hP 0 rfl rfl 7 (by decide) w__fieldLink_RX10_35_ShellHeap_Tape_sort_I_ (fun _ h9 => h9) rfl dX10_wordIn_1 ?_
  refine lv_iconst (v := 1) hx hb dX10_wordIn_4 (by decide) ?_
  refine lv_icmp_eq (tgt := 10) hx hb dX10_wordIn_5 (by decide) (fun c_1 => ?_) (fun c_1 => ?_)
  · have k_2 : (to).toInt = (1 : Int) := z_eq c_1
    refine lv_iconst (v := 0) hx hb dX10_wordIn_10 (by decide) ?_
    refine lv_istore_n (lv' := [(2, .int 0), (0, .ref h0), (1, .ref (sd sx))]) hx hb dX10_wordIn_11 rfl hl (by decide) rfl (fun ls hl => ?_)
    refine lv_aload_n hx hb dX10_wordIn_12 rfl (lv_at hl 1 rfl) ?_
    refine va_get (D := (dC, dI)) (ci := 10) (v := .int ts) (C := RX10) (T := TX10) (N := 11) hx hb hts hiX10 hown hK hP 0 rfl rfl 5 (by decide) w__fieldLink_RX10_29_ShellHeap_Tape_start_I_ (fun _ h9 => h9) rfl dX10_wordIn_13 ?_
    refine lv_istore_n (lv' := [(3, .int ts), (2, .int 0), (0, .ref h0), (1, .ref (sd sx))]) hx hb dX10_wordIn_16 rfl hl (by decide) rfl (fun ls hl => ?_)
    refine lv_iconst (v := 1) hx hb dX10_wordIn_17 (by decide) ?_
    refine lv_istore (lv' := [(4, .int 1), (3, .int ts), (2, .int 0), (0, .ref h0), (1, .ref (sd sx))]) hx hb dX10_wordIn_18 hl (by decide) rfl (fun ls hl => ?_)
    refine lv_iconst (v := 0) hx hb dX10_wordIn_20 (by decide) ?_
    refine lv_istore (lv' := [(5, .int 0), (4, .int 1), (3, .int ts), (2, .int 0), (0, .ref h0), (1, .ref (sd sx))]) hx hb dX10_wordIn_21 hl (by decide) rfl (fun ls hl => ?_)
    have loop_3 : ∀ (n_4 : Nat) (w_6 : Int32) (pl_7 : Int32) (sm_8 : Int32) (i_9 : Int32) (H : Heap) (locs : List Loc) (ls : Array Slot), (59 - (i_9).toInt).toNat < n_4 → (((0 : Int) ≤ (w_6).toInt ∧ (w_6).toInt ≤ (60 : Int))) → (((0 : Int) ≤ (pl_7).toInt ∧ (pl_7).toInt ≤ (800 : Int))) → (((0 : Int) ≤ (sm_8).toInt ∧ (sm_8).toInt ≤ (1 : Int))) → (((0 : Int) ≤ (i_9).toInt ∧ (i_9).toInt ≤ (58 : Int))) → (f_wI fh1 (ts).toInt (te).toInt (i_9 : Int32).toNatClampNeg (w_6).toInt (pl_7).toInt (sm_8).toInt) → ((w_6).toInt ≤ (i_9).toInt) → ((pl_7).toInt ≤ 700 + (i_9).toInt) → ((i_9).toInt ≤ ((z_len.getD sx 0 : Nat) : Int) + 1) → va_P (dC, dI) vwCl [(h0, .inr (10, [.ref h1, .int tt, h0_2, h0_3, h0_4, .int ts, .int te, .int to, .int tg, h0_9, h0_10])), (h1, .inl (ch1, 700, .inl fh1))] H → va_D (fun _ => True) [(h0, .inr (10, [.ref h1, .int tt, h0_2, h0_3, h0_4, .int ts, .int te, .int to, .int tg, h0_9, h0_10])), (h1, .inl (ch1, 700, .inl fh1))] → va_S A s.heap H locs → lv_has ls 7 [(5, .int i_9), (4, .int sm_8), (3, .int pl_7), (2, .int w_6), (0, .ref h0), (1, .ref (sd sx))] → W p l e ({ frames := 4, cells := 0, slots := 0, locals := 85 } : Room) s m ([.ref h0, .ref (sd sx)] : List Value).toArray below meth c H locs 0 0 QQ (F0 m 23 ls []) := by
      intro n_4
      induction n_4 with
      | zero => intro w_6 pl_7 sm_8 i_9 H locs ls hm; exact absurd hm (Nat.not_lt_zero _)
      | succ n_4 ih_5 =>
        intro w_6 pl_7 sm_8 i_9 H locs ls hm hF_10 hF_11 hF_12 hF_13 hF_14 hF_15 hF_16 hF_17 hP hD hS hl
        refine lv_iload hx hb dX10_wordIn_23 (lv_at hl 0 rfl) ?_
        refine lv_aload_n hx hb dX10_wordIn_25 rfl (lv_at hl 5 rfl) ?_
        have hPc := hP.sub (ws' := []) [] rfl
        have hDc := hD.sub (ws' := []) [] (by decide) rfl
        have hKc := hK.sub (tys' := []) [] rfl
        have hFc := va_free (ws := []) (wc := []) (z_D0 _) hS hA [] rfl
        refine va_calli (va_runV (As := []) (rest := [.int i_9]) ⟨hx, hb, hml, hown, hts⟩ (s_J0_length_8abf5 l dC dI H.size sd sv sf sx hsx) (cwV 0 hts gw_s_X10_wordIn3_s_J0_length_8abf5_70 rfl rfl rfl (by decide +kernel) ⟨Nat.le_of_ble_eq_true rfl, Nat.le_of_ble_eq_true rfl⟩) ⟨z_blindS, vk_recv hST.1 hsx hS, z_preS hPc hKc hDc ((hST.kept hS.2.1).narrow hFc)⟩ rfl rfl hl.1 rfl (lv_room (Nat.le_of_ble_eq_true rfl)) dX10_wordIn_26 ⟨Nat.le_of_ble_eq_true rfl, Nat.le_of_ble_eq_true rfl⟩) hS (fun q _ h => hFc q h) hFc (fun r_19 u t H_18 locs ht hvm hw_20 hB hz1 hk1 hS => ?_)
        have hP := z_pure hP hk1
        have hP : va_P (dC, dI) vwCl [(h0, .inr (10, [.ref h1, .int tt, h0_2, h0_3, h0_4, .int ts, .int te, .int to, .int tg, h0_9, h0_10])), (h1, .inl (ch1, 700, .inl fh1))] H_18 := hP
        have hD : va_D (fun _ => True) [(h0, .inr (10, [.ref h1, .int tt, h0_2, h0_3, h0_4, .int ts, .int te, .int to, .int tg, h0_9, h0_10])), (h1, .inl (ch1, 700, .inl fh1))] := hD
        clear hPc hDc hKc
        refine lv_icmp_gt (tgt := 129) hx hb dX10_wordIn_29 (by decide) (fun c_21 => ?_) (fun c_21 => ?_)
        · have k_22 : (r_19).toInt < (i_9).toInt := z_lt c_21
          refine lv_iconst (v := (-1)) hx hb dX10_wordIn_129 (by decide) ?_
          refine z_backQ hQQ ?_
          refine W.widen (k := 0) (n := 0) (Nat.le_of_ble_eq_true rfl) (Nat.le_of_ble_eq_true rfl) ?_
          exact W.iret (v := (-1)) hx hb hr (fun t ht hW => ⟨⟨(-1), (), rfl, (show ((-1 : Int) ≤ (-1 : Int) ∧ (-1 : Int) ≤ (5 : Int)) ∧ f_wiA fh1 tt.toInt ts.toInt te.toInt (-1 : Int) from ⟨by decide, f_wi_n hC (Or.inr (f_wI_end hs0 (by omega) (by omega) hF_14)) rfl⟩), trivial⟩, hS.F ht⟩) hS.2.2 dX10_wordIn_130
        · have k_23 : (r_19).toInt ≥ (i_9).toInt := z_nlt c_21
          refine lv_iload hx hb dX10_wordIn_32 (lv_at hl 0 rfl) ?_
          refine lv_aload_n hx hb dX10_wordIn_34 rfl (lv_at hl 5 rfl) ?_
          have hPc := hP.sub (ws' := []) [] rfl
          have hDc := hD.sub (ws' := []) [] (by decide) rfl
          have hKc := hK.sub (tys' := []) [] rfl
          have hFc := va_free (ws := []) (wc := []) (z_D0 _) hS hA [] rfl
          refine va_calli (va_runV (As := []) (rest := [.int i_9]) ⟨hx, hb, hml, hown, hts⟩ (s_J0_length_8abf5 l dC dI H_18.size sd sv sf sx hsx) (cwV 0 hts gw_s_X10_wordIn3_s_J0_length_8abf5_70 rfl rfl rfl (by decide +kernel) ⟨Nat.le_of_ble_eq_true rfl, Nat.le_of_ble_eq_true rfl⟩) ⟨z_blindS, vk_recv hST.1 hsx hS, z_preS hPc hKc hDc ((hST.kept hS.2.1).narrow hFc)⟩ rfl rfl hl.1 rfl (lv_room (Nat.le_of_ble_eq_true rfl)) dX10_wordIn_35 ⟨Nat.le_of_ble_eq_true rfl, Nat.le_of_ble_eq_true rfl⟩) hS (fun q _ h => hFc q h) hFc (fun r_25 u t H_24 locs ht hvm hw_26 hB hz1 hk1 hS => ?_)
          have hP := z_pure hP hk1
          have hP : va_P (dC, dI) vwCl [(h0, .inr (10, [.ref h1, .int tt, h0_2, h0_3, h0_4, .int ts, .int te, .int to, .int tg, h0_9, h0_10])), (h1, .inl (ch1, 700, .inl fh1))] H_24 := hP
          have hD : va_D (fun _ => True) [(h0, .inr (10, [.ref h1, .int tt, h0_2, h0_3, h0_4, .int ts, .int te, .int to, .int tg, h0_9, h0_10])), (h1, .inl (ch1, 700, .inl fh1))] := hD
          clear hPc hDc hKc
          refine lv_icmp_ge (tgt := 50) hx hb dX10_wordIn_38 (by decide) (fun c_27 => ?_) (fun c_27 => ?_)
          · have k_28 : (r_25).toInt ≤ (i_9).toInt := z_le c_27
            refine lv_bipush (v := 32) hx hb dX10_wordIn_50 (by decide) ?_
            refine lv_istore (lv' := [(6, .int 32), (5, .int i_9), (4, .int sm_8), (3, .int pl_7), (2, .int w_6), (0, .ref h0), (1, .ref (sd sx))]) hx hb dX10_wordIn_52 hl (by decide) rfl (fun ls hl => ?_)
            refine lv_iload hx hb dX10_wordIn_54 (lv_at hl 0 rfl) ?_
            refine lv_bipush (v := 32) hx hb dX10_wordIn_56 (by decide) ?_
            refine lv_icmp_eq (tgt := 97) hx hb dX10_wordIn_58 (by decide) (fun _ => ?_) (fun c_29 => absurd (by decide) c_29)
            refine lv_iload hx hb dX10_wordIn_97 (lv_at hl 2 rfl) ?_
            refine lv_if_eq (tgt := 112) hx hb dX10_wordIn_99 (by decide) (fun c_30 => ?_) (fun c_30 => ?_)
            · have k_31 : (sm_8).toInt = (0 : Int) := z_eq c_30
              obtain rfl : sm_8 = 0 := z_eq' (show (sm_8).toInt = (0 : Int) by omega)
              obtain ⟨z_33, ez_33⟩ : ∃ y : Int32, y = w_6 + 1 := ⟨_, rfl⟩
              have kz_33 : (z_33).toInt = (w_6).toInt + (1 : Int) := by rw [ez_33]; exact z_add (b := 1) rfl rfl (by omega) (by omega)
              refine lv_iinc (v := z_33) (lv' := [(2, .int z_33), (6, .int 32), (5, .int i_9), (4, .int 0), (3, .int pl_7), (0, .ref h0), (1, .ref (sd sx))]) hx hb dX10_wordIn_112 hl (k := 4) rfl (by rw [ez_33]; rfl) (by decide) rfl (fun ls hl => ?_)
              refine lv_aload_n hx hb dX10_wordIn_115 rfl (lv_at hl 5 rfl) ?_
              refine va_get (D := (dC, dI)) (ci := 10) (v := .int ts) (C := RX10) (T := TX10) (N := 11) hx hb hts hiX10 hown hK hP 0 rfl rfl 5 (by decide) w__fieldLink_RX10_29_ShellHeap_Tape_start_I_ (fun _ h9 => h9) rfl dX10_wordIn_116 ?_
              refine lv_istore_n (lv' := [(3, .int ts), (2, .int z_33), (6, .int 32), (5, .int i_9), (4, .int 0), (0, .ref h0), (1, .ref (sd sx))]) hx hb dX10_wordIn_119 rfl hl (by decide) rfl (fun ls hl => ?_)
              refine lv_iconst (v := 1) hx hb dX10_wordIn_120 (by decide) ?_
              refine lv_istore (lv' := [(4, .int 1), (3, .int ts), (2, .int z_33), (6, .int 32), (5, .int i_9), (0, .ref h0), (1, .ref (sd sx))]) hx hb dX10_wordIn_121 hl (by decide) rfl (fun ls hl => ?_)
              obtain ⟨z_34, ez_34⟩ : ∃ y : Int32, y = i_9 + 1 := ⟨_, rfl⟩
              have kz_34 : (z_34).toInt = (i_9).toInt + (1 : Int) := by rw [ez_34]; exact z_add (b := 1) rfl rfl (by omega) (by omega)
              refine lv_iinc (v := z_34) (lv' := [(5, .int z_34), (4, .int 1), (3, .int ts), (2, .int z_33), (6, .int 32), (0, .ref h0), (1, .ref (sd sx))]) hx hb dX10_wordIn_123 hl (k := 4) rfl (by rw [ez_34]; rfl) (by decide) rfl (fun ls hl => ?_)
              refine lv_goto (tgt := 23) hx hb dX10_wordIn_126 (by decide) ?_
              exact ih_5 z_33 ts 1 z_34 _ _ _ (show (59 - (z_34).toInt).toNat < n_4 by omega) (show ((0 : Int) ≤ (z_33).toInt ∧ (z_33).toInt ≤ (60 : Int)) by omega) (show ((0 : Int) ≤ (ts).toInt ∧ (ts).toInt ≤ (800 : Int)) by omega) (show ((0 : Int) ≤ (1 : Int) ∧ (1 : Int) ≤ (1 : Int)) by omega) (show ((0 : Int) ≤ (z_34).toInt ∧ (z_34).toInt ≤ (58 : Int)) by omega) (show f_wI fh1 (ts).toInt (te).toInt (z_34 : Int32).toNatClampNeg (z_33).toInt (ts).toInt (1 : Int) from f_wI_b hs0 ez_34 (by omega) (by omega) (by first | exact Or.inl (z_ncn (by omega))) hF_14 (by omega) (by first | exact Or.inl (by first | omega | decide) | exact Or.inr (by omega))) (show (z_33).toInt ≤ (z_34).toInt by omega) (show (ts).toInt ≤ 700 + (z_34).toInt by omega) (show (z_34).toInt ≤ ((z_len.getD sx 0 : Nat) : Int) + 1 by omega) hP hD hS (lv_sub hl [0, 1, 2, 3, 5, 6] rfl)
            · have k_35 : (sm_8).toInt ≠ (0 : Int) := z_ne c_30
              obtain rfl : sm_8 = 1 := z_eq' (show (sm_8).toInt = (1 : Int) by omega)
              refine lv_iload_n hx hb dX10_wordIn_102 rfl (lv_at hl 3 rfl) ?_
              refine lv_aload_n hx hb dX10_wordIn_103 rfl (lv_at hl 5 rfl) ?_
              refine va_get (D := (dC, dI)) (ci := 10) (v := .int te) (C := RX10) (T := TX10) (N := 11) hx hb hts hiX10 hown hK hP 0 rfl rfl 6 (by decide) w__fieldLink_RX10_32_ShellHeap_Tape_end_I_ (fun _ h9 => h9) rfl dX10_wordIn_104 ?_
              refine lv_icmp_ne (tgt := 112) hx hb dX10_wordIn_107 (by decide) (fun c_37 => ?_) (fun c_37 => ?_)
              · have k_38 : (pl_7).toInt ≠ (te).toInt := z_ne c_37
                obtain ⟨z_39, ez_39⟩ : ∃ y : Int32, y = w_6 + 1 := ⟨_, rfl⟩
                have kz_39 : (z_39).toInt = (w_6).toInt + (1 : Int) := by rw [ez_39]; exact z_add (b := 1) rfl rfl (by omega) (by omega)
                refine lv_iinc (v := z_39) (lv' := [(2, .int z_39), (6, .int 32), (5, .int i_9), (4, .int 1), (3, .int pl_7), (0, .ref h0), (1, .ref (sd sx))]) hx hb dX10_wordIn_112 hl (k := 4) rfl (by rw [ez_39]; rfl) (by decide) rfl (fun ls hl => ?_)
                refine lv_aload_n hx hb dX10_wordIn_115 rfl (lv_at hl 5 rfl) ?_
                refine va_get (D := (dC, dI)) (ci := 10) (v := .int ts) (C := RX10) (T := TX10) (N := 11) hx hb hts hiX10 hown hK hP 0 rfl rfl 5 (by decide) w__fieldLink_RX10_29_ShellHeap_Tape_start_I_ (fun _ h9 => h9) rfl dX10_wordIn_116 ?_
                refine lv_istore_n (lv' := [(3, .int ts), (2, .int z_39), (6, .int 32), (5, .int i_9), (4, .int 1), (0, .ref h0), (1, .ref (sd sx))]) hx hb dX10_wordIn_119 rfl hl (by decide) rfl (fun ls hl => ?_)
                refine lv_iconst (v := 1) hx hb dX10_wordIn_120 (by decide) ?_
                refine lv_istore (lv' := [(4, .int 1), (3, .int ts), (2, .int z_39), (6, .int 32), (5, .int i_9), (0, .ref h0), (1, .ref (sd sx))]) hx hb dX10_wordIn_121 hl (by decide) rfl (fun ls hl => ?_)
                obtain ⟨z_40, ez_40⟩ : ∃ y : Int32, y = i_9 + 1 := ⟨_, rfl⟩
                have kz_40 : (z_40).toInt = (i_9).toInt + (1 : Int) := by rw [ez_40]; exact z_add (b := 1) rfl rfl (by omega) (by omega)
                refine lv_iinc (v := z_40) (lv' := [(5, .int z_40), (4, .int 1), (3, .int ts), (2, .int z_39), (6, .int 32), (0, .ref h0), (1, .ref (sd sx))]) hx hb dX10_wordIn_123 hl (k := 4) rfl (by rw [ez_40]; rfl) (by decide) rfl (fun ls hl => ?_)
                refine lv_goto (tgt := 23) hx hb dX10_wordIn_126 (by decide) ?_
                exact ih_5 z_39 ts 1 z_40 _ _ _ (show (59 - (z_40).toInt).toNat < n_4 by omega) (show ((0 : Int) ≤ (z_39).toInt ∧ (z_39).toInt ≤ (60 : Int)) by omega) (show ((0 : Int) ≤ (ts).toInt ∧ (ts).toInt ≤ (800 : Int)) by omega) (show ((0 : Int) ≤ (1 : Int) ∧ (1 : Int) ≤ (1 : Int)) by omega) (show ((0 : Int) ≤ (z_40).toInt ∧ (z_40).toInt ≤ (58 : Int)) by omega) (show f_wI fh1 (ts).toInt (te).toInt (z_40 : Int32).toNatClampNeg (z_39).toInt (ts).toInt (1 : Int) from f_wI_b hs0 ez_40 (by omega) (by omega) (by first | exact Or.inl (z_ncn (by omega))) hF_14 (by omega) (by first | exact Or.inl (by first | omega | decide) | exact Or.inr (by omega))) (show (z_39).toInt ≤ (z_40).toInt by omega) (show (ts).toInt ≤ 700 + (z_40).toInt by omega) (show (z_40).toInt ≤ ((z_len.getD sx 0 : Nat) : Int) + 1 by omega) hP hD hS (lv_sub hl [0, 1, 2, 3, 5, 6] rfl)
              · have k_41 : (pl_7).toInt = (te).toInt := z_eq c_37
                refine lv_iload_n hx hb dX10_wordIn_110 rfl (lv_at hl 4 rfl) ?_
                refine z_backQ hQQ ?_
                refine W.widen (k := 0) (n := 0) (Nat.le_of_ble_eq_true rfl) (Nat.le_of_ble_eq_true rfl) ?_
                exact W.iret (v := w_6) hx hb hr (fun t ht hW => ⟨⟨w_6, (), rfl, (show ((-1 : Int) ≤ (w_6).toInt ∧ (w_6).toInt ≤ (5 : Int)) ∧ f_wiA fh1 tt.toInt ts.toInt te.toInt (w_6).toInt by obtain ⟨v9, hv9, hm9, hw9⟩ := f_wI_hit hs0 (by omega) (by omega) (by first | exact Or.inl (z_ncn (by omega))) hF_14 (by first | omega | decide) (by omega); exact ⟨⟨by omega, by omega⟩, f_wi_y hC (by first | omega | decide) hv9 hm9 hw9⟩), trivial⟩, hS.F ht⟩) hS.2.2 dX10_wordIn_111
          · have k_42 : (r_25).toInt > (i_9).toInt := z_nle c_27
            refine lv_aload_n hx hb dX10_wordIn_41 rfl (lv_at hl 5 rfl) ?_
            refine lv_iload hx hb dX10_wordIn_42 (lv_at hl 0 rfl) ?_
            have hPc := hP.sub (ws' := []) [] rfl
            have hDc := hD.sub (ws' := []) [] (by decide) rfl
            have hKc := hK.sub (tys' := []) [] rfl
            have hFc := va_free (ws := []) (wc := []) (z_D0 _) hS hA [] rfl
            refine va_calli (va_runV (As := [.int i_9]) (rest := []) ⟨hx, hb, hml, hown, hts⟩ (s_J0_charAt_5068e l dC dI H_24.size sd sv sf sx i_9 (by first | omega | decide) hsx (by first | omega | decide)) (cwV 1 hts gw_s_X10_wordIn3_s_J0_charAt_5068e_76 rfl rfl rfl (by decide +kernel) ⟨Nat.le_of_ble_eq_true rfl, Nat.le_of_ble_eq_true rfl⟩) ⟨z_blindS, vk_recv hST.1 hsx hS, z_preS hPc hKc hDc ((hST.kept hS.2.1).narrow hFc)⟩ rfl rfl hl.1 rfl (lv_room (Nat.le_of_ble_eq_true rfl)) dX10_wordIn_44 ⟨Nat.le_of_ble_eq_true rfl, Nat.le_of_ble_eq_true rfl⟩) hS (fun q _ h => hFc q h) hFc (fun r_44 u t H_43 locs ht hvm hw_45 hB hz1 hk1 hS => ?_)
            have hP := z_pure hP hk1
            have hP : va_P (dC, dI) vwCl [(h0, .inr (10, [.ref h1, .int tt, h0_2, h0_3, h0_4, .int ts, .int te, .int to, .int tg, h0_9, h0_10])), (h1, .inl (ch1, 700, .inl fh1))] H_43 := hP
            have hD : va_D (fun _ => True) [(h0, .inr (10, [.ref h1, .int tt, h0_2, h0_3, h0_4, .int ts, .int te, .int to, .int tg, h0_9, h0_10])), (h1, .inl (ch1, 700, .inl fh1))] := hD
            clear hPc hDc hKc
            refine lv_goto (tgt := 52) hx hb dX10_wordIn_47 (by decide) ?_
            refine lv_istore (lv' := [(6, .int r_44), (5, .int i_9), (4, .int sm_8), (3, .int pl_7), (2, .int w_6), (0, .ref h0), (1, .ref (sd sx))]) hx hb dX10_wordIn_52 hl (by decide) rfl (fun ls hl => ?_)
            refine lv_iload hx hb dX10_wordIn_54 (lv_at hl 0 rfl) ?_
            refine lv_bipush (v := 32) hx hb dX10_wordIn_56 (by decide) ?_
            refine lv_icmp_eq (tgt := 97) hx hb dX10_wordIn_58 (by decide) (fun c_46 => ?_) (fun c_46 => ?_)
            · have k_47 : (r_44).toInt = (32 : Int) := z_eq c_46
              obtain rfl : r_44 = 32 := z_eq' (show (r_44).toInt = (32 : Int) by omega)
              refine lv_iload hx hb dX10_wordIn_97 (lv_at hl 2 rfl) ?_
              refine lv_if_eq (tgt := 112) hx hb dX10_wordIn_99 (by decide) (fun c_49 => ?_) (fun c_49 => ?_)
              · have k_50 : (sm_8).toInt = (0 : Int) := z_eq c_49
                obtain rfl : sm_8 = 0 := z_eq' (show (sm_8).toInt = (0 : Int) by omega)
                obtain ⟨z_52, ez_52⟩ : ∃ y : Int32, y = w_6 + 1 := ⟨_, rfl⟩
                have kz_52 : (z_52).toInt = (w_6).toInt + (1 : Int) := by rw [ez_52]; exact z_add (b := 1) rfl rfl (by omega) (by omega)
                refine lv_iinc (v := z_52) (lv' := [(2, .int z_52), (6, .int 32), (5, .int i_9), (4, .int 0), (3, .int pl_7), (0, .ref h0), (1, .ref (sd sx))]) hx hb dX10_wordIn_112 hl (k := 4) rfl (by rw [ez_52]; rfl) (by decide) rfl (fun ls hl => ?_)
                refine lv_aload_n hx hb dX10_wordIn_115 rfl (lv_at hl 5 rfl) ?_
                refine va_get (D := (dC, dI)) (ci := 10) (v := .int ts) (C := RX10) (T := TX10) (N := 11) hx hb hts hiX10 hown hK hP 0 rfl rfl 5 (by decide) w__fieldLink_RX10_29_ShellHeap_Tape_start_I_ (fun _ h9 => h9) rfl dX10_wordIn_116 ?_
                refine lv_istore_n (lv' := [(3, .int ts), (2, .int z_52), (6, .int 32), (5, .int i_9), (4, .int 0), (0, .ref h0), (1, .ref (sd sx))]) hx hb dX10_wordIn_119 rfl hl (by decide) rfl (fun ls hl => ?_)
                refine lv_iconst (v := 1) hx hb dX10_wordIn_120 (by decide) ?_
                refine lv_istore (lv' := [(4, .int 1), (3, .int ts), (2, .int z_52), (6, .int 32), (5, .int i_9), (0, .ref h0), (1, .ref (sd sx))]) hx hb dX10_wordIn_121 hl (by decide) rfl (fun ls hl => ?_)
                obtain ⟨z_53, ez_53⟩ : ∃ y : Int32, y = i_9 + 1 := ⟨_, rfl⟩
                have kz_53 : (z_53).toInt = (i_9).toInt + (1 : Int) := by rw [ez_53]; exact z_add (b := 1) rfl rfl (by omega) (by omega)
                refine lv_iinc (v := z_53) (lv' := [(5, .int z_53), (4, .int 1), (3, .int ts), (2, .int z_52), (6, .int 32), (0, .ref h0), (1, .ref (sd sx))]) hx hb dX10_wordIn_123 hl (k := 4) rfl (by rw [ez_53]; rfl) (by decide) rfl (fun ls hl => ?_)
                refine lv_goto (tgt := 23) hx hb dX10_wordIn_126 (by decide) ?_
                exact ih_5 z_52 ts 1 z_53 _ _ _ (show (59 - (z_53).toInt).toNat < n_4 by omega) (show ((0 : Int) ≤ (z_52).toInt ∧ (z_52).toInt ≤ (60 : Int)) by omega) (show ((0 : Int) ≤ (ts).toInt ∧ (ts).toInt ≤ (800 : Int)) by omega) (show ((0 : Int) ≤ (1 : Int) ∧ (1 : Int) ≤ (1 : Int)) by omega) (show ((0 : Int) ≤ (z_53).toInt ∧ (z_53).toInt ≤ (58 : Int)) by omega) (show f_wI fh1 (ts).toInt (te).toInt (z_53 : Int32).toNatClampNeg (z_52).toInt (ts).toInt (1 : Int) from f_wI_b hs0 ez_53 (by omega) (by omega) (by first | exact Or.inl (z_ncn (by omega)) | exact Or.inr (by rw [← hw_45]; first | decide | omega)) hF_14 (by omega) (by first | exact Or.inl (by first | omega | decide) | exact Or.inr (by omega))) (show (z_52).toInt ≤ (z_53).toInt by omega) (show (ts).toInt ≤ 700 + (z_53).toInt by omega) (show (z_53).toInt ≤ ((z_len.getD sx 0 : Nat) : Int) + 1 by omega) hP hD hS (lv_sub hl [0, 1, 2, 3, 5, 6] rfl)
              · have k_54 : (sm_8).toInt ≠ (0 : Int) := z_ne c_49
                obtain rfl : sm_8 = 1 := z_eq' (show (sm_8).toInt = (1 : Int) by omega)
                refine lv_iload_n hx hb dX10_wordIn_102 rfl (lv_at hl 3 rfl) ?_
                refine lv_aload_n hx hb dX10_wordIn_103 rfl (lv_at hl 5 rfl) ?_
                refine va_get (D := (dC, dI)) (ci := 10) (v := .int te) (C := RX10) (T := TX10) (N := 11) hx hb hts hiX10 hown hK hP 0 rfl rfl 6 (by decide) w__fieldLink_RX10_32_ShellHeap_Tape_end_I_ (fun _ h9 => h9) rfl dX10_wordIn_104 ?_
                refine lv_icmp_ne (tgt := 112) hx hb dX10_wordIn_107 (by decide) (fun c_56 => ?_) (fun c_56 => ?_)
                · have k_57 : (pl_7).toInt ≠ (te).toInt := z_ne c_56
                  obtain ⟨z_58, ez_58⟩ : ∃ y : Int32, y = w_6 + 1 := ⟨_, rfl⟩
                  have kz_58 : (z_58).toInt = (w_6).toInt + (1 : Int) := by rw [ez_58]; exact z_add (b := 1) rfl rfl (by omega) (by omega)
                  refine lv_iinc (v := z_58) (lv' := [(2, .int z_58), (6, .int 32), (5, .int i_9), (4, .int 1), (3, .int pl_7), (0, .ref h0), (1, .ref (sd sx))]) hx hb dX10_wordIn_112 hl (k := 4) rfl (by rw [ez_58]; rfl) (by decide) rfl (fun ls hl => ?_)
                  refine lv_aload_n hx hb dX10_wordIn_115 rfl (lv_at hl 5 rfl) ?_
                  refine va_get (D := (dC, dI)) (ci := 10) (v := .int ts) (C := RX10) (T := TX10) (N := 11) hx hb hts hiX10 hown hK hP 0 rfl rfl 5 (by decide) w__fieldLink_RX10_29_ShellHeap_Tape_start_I_ (fun _ h9 => h9) rfl dX10_wordIn_116 ?_
                  refine lv_istore_n (lv' := [(3, .int ts), (2, .int z_58), (6, .int 32), (5, .int i_9), (4, .int 1), (0, .ref h0), (1, .ref (sd sx))]) hx hb dX10_wordIn_119 rfl hl (by decide) rfl (fun ls hl => ?_)
                  refine lv_iconst (v := 1) hx hb dX10_wordIn_120 (by decide) ?_
                  refine lv_istore (lv' := [(4, .int 1), (3, .int ts), (2, .int z_58), (6, .int 32), (5, .int i_9), (0, .ref h0), (1, .ref (sd sx))]) hx hb dX10_wordIn_121 hl (by decide) rfl (fun ls hl => ?_)
                  obtain ⟨z_59, ez_59⟩ : ∃ y : Int32, y = i_9 + 1 := ⟨_, rfl⟩
                  have kz_59 : (z_59).toInt = (i_9).toInt + (1 : Int) := by rw [ez_59]; exact z_add (b := 1) rfl rfl (by omega) (by omega)
                  refine lv_iinc (v := z_59) (lv' := [(5, .int z_59), (4, .int 1), (3, .int ts), (2, .int z_58), (6, .int 32), (0, .ref h0), (1, .ref (sd sx))]) hx hb dX10_wordIn_123 hl (k := 4) rfl (by rw [ez_59]; rfl) (by decide) rfl (fun ls hl => ?_)
                  refine lv_goto (tgt := 23) hx hb dX10_wordIn_126 (by decide) ?_
                  exact ih_5 z_58 ts 1 z_59 _ _ _ (show (59 - (z_59).toInt).toNat < n_4 by omega) (show ((0 : Int) ≤ (z_58).toInt ∧ (z_58).toInt ≤ (60 : Int)) by omega) (show ((0 : Int) ≤ (ts).toInt ∧ (ts).toInt ≤ (800 : Int)) by omega) (show ((0 : Int) ≤ (1 : Int) ∧ (1 : Int) ≤ (1 : Int)) by omega) (show ((0 : Int) ≤ (z_59).toInt ∧ (z_59).toInt ≤ (58 : Int)) by omega) (show f_wI fh1 (ts).toInt (te).toInt (z_59 : Int32).toNatClampNeg (z_58).toInt (ts).toInt (1 : Int) from f_wI_b hs0 ez_59 (by omega) (by omega) (by first | exact Or.inl (z_ncn (by omega)) | exact Or.inr (by rw [← hw_45]; first | decide | omega)) hF_14 (by omega) (by first | exact Or.inl (by first | omega | decide) | exact Or.inr (by omega))) (show (z_58).toInt ≤ (z_59).toInt by omega) (show (ts).toInt ≤ 700 + (z_59).toInt by omega) (show (z_59).toInt ≤ ((z_len.getD sx 0 : Nat) : Int) + 1 by omega) hP hD hS (lv_sub hl [0, 1, 2, 3, 5, 6] rfl)
                · have k_60 : (pl_7).toInt = (te).toInt := z_eq c_56
                  refine lv_iload_n hx hb dX10_wordIn_110 rfl (lv_at hl 4 rfl) ?_
                  refine z_backQ hQQ ?_
                  refine W.widen (k := 0) (n := 0) (Nat.le_of_ble_eq_true rfl) (Nat.le_of_ble_eq_true rfl) ?_
                  exact W.iret (v := w_6) hx hb hr (fun t ht hW => ⟨⟨w_6, (), rfl, (show ((-1 : Int) ≤ (w_6).toInt ∧ (w_6).toInt ≤ (5 : Int)) ∧ f_wiA fh1 tt.toInt ts.toInt te.toInt (w_6).toInt by obtain ⟨v9, hv9, hm9, hw9⟩ := f_wI_hit hs0 (by omega) (by omega) (by first | exact Or.inl (z_ncn (by omega)) | exact Or.inr (by rw [← hw_45]; first | decide | omega)) hF_14 (by first | omega | decide) (by omega); exact ⟨⟨by omega, by omega⟩, f_wi_y hC (by first | omega | decide) hv9 hm9 hw9⟩), trivial⟩, hS.F ht⟩) hS.2.2 dX10_wordIn_111
            · have k_61 : (r_44).toInt ≠ (32 : Int) := z_ne c_46
              refine lv_iload hx hb dX10_wordIn_61 (lv_at hl 2 rfl) ?_
              refine lv_if_eq (tgt := 88) hx hb dX10_wordIn_63 (by decide) (fun c_62 => ?_) (fun c_62 => ?_)
              · have k_63 : (sm_8).toInt = (0 : Int) := z_eq c_62
                obtain rfl : sm_8 = 0 := z_eq' (show (sm_8).toInt = (0 : Int) by omega)
                refine lv_iconst (v := 0) hx hb dX10_wordIn_88 (by decide) ?_
                refine lv_istore (lv' := [(4, .int 0), (6, .int r_44), (5, .int i_9), (3, .int pl_7), (2, .int w_6), (0, .ref h0), (1, .ref (sd sx))]) hx hb dX10_wordIn_89 hl (by decide) rfl (fun ls hl => ?_)
                obtain ⟨z_65, ez_65⟩ : ∃ y : Int32, y = pl_7 + 1 := ⟨_, rfl⟩
                have kz_65 : (z_65).toInt = (pl_7).toInt + (1 : Int) := by rw [ez_65]; exact z_add (b := 1) rfl rfl (by omega) (by omega)
                refine lv_iinc (v := z_65) (lv' := [(3, .int z_65), (4, .int 0), (6, .int r_44), (5, .int i_9), (2, .int w_6), (0, .ref h0), (1, .ref (sd sx))]) hx hb dX10_wordIn_91 hl (k := 3) rfl (by rw [ez_65]; rfl) (by decide) rfl (fun ls hl => ?_)
                refine lv_goto (tgt := 123) hx hb dX10_wordIn_94 (by decide) ?_
                obtain ⟨z_66, ez_66⟩ : ∃ y : Int32, y = i_9 + 1 := ⟨_, rfl⟩
                have kz_66 : (z_66).toInt = (i_9).toInt + (1 : Int) := by rw [ez_66]; exact z_add (b := 1) rfl rfl (by omega) (by omega)
                refine lv_iinc (v := z_66) (lv' := [(5, .int z_66), (3, .int z_65), (4, .int 0), (6, .int r_44), (2, .int w_6), (0, .ref h0), (1, .ref (sd sx))]) hx hb dX10_wordIn_123 hl (k := 3) rfl (by rw [ez_66]; rfl) (by decide) rfl (fun ls hl => ?_)
                refine lv_goto (tgt := 23) hx hb dX10_wordIn_126 (by decide) ?_
                exact ih_5 w_6 z_65 0 z_66 _ _ _ (show (59 - (z_66).toInt).toNat < n_4 by omega) (show ((0 : Int) ≤ (w_6).toInt ∧ (w_6).toInt ≤ (60 : Int)) by omega) (show ((0 : Int) ≤ (z_65).toInt ∧ (z_65).toInt ≤ (800 : Int)) by omega) (show ((0 : Int) ≤ (0 : Int) ∧ (0 : Int) ≤ (1 : Int)) by omega) (show ((0 : Int) ≤ (z_66).toInt ∧ (z_66).toInt ≤ (58 : Int)) by omega) (show f_wI fh1 (ts).toInt (te).toInt (z_66 : Int32).toNatClampNeg (w_6).toInt (z_65).toInt (0 : Int) from f_wI_n hs0 ez_66 (by omega) (by omega) hw_45 (by first | omega | decide) hF_14 (by omega) (by omega) (by first | exact Or.inl (by first | omega | decide) | exact Or.inr (Or.inl (by omega)))) (show (w_6).toInt ≤ (z_66).toInt by omega) (show (z_65).toInt ≤ 700 + (z_66).toInt by omega) (show (z_66).toInt ≤ ((z_len.getD sx 0 : Nat) : Int) + 1 by omega) hP hD hS (lv_sub hl [0, 2, 1, 4, 5, 6] rfl)
              · have k_67 : (sm_8).toInt ≠ (0 : Int) := z_ne c_62
                obtain rfl : sm_8 = 1 := z_eq' (show (sm_8).toInt = (1 : Int) by omega)
                refine lv_iload_n hx hb dX10_wordIn_66 rfl (lv_at hl 3 rfl) ?_
                refine lv_aload_n hx hb dX10_wordIn_67 rfl (lv_at hl 5 rfl) ?_
                refine va_get (D := (dC, dI)) (ci := 10) (v := .int te) (C := RX10) (T := TX10) (N := 11) hx hb hts hiX10 hown hK hP 0 rfl rfl 6 (by decide) w__fieldLink_RX10_32_ShellHeap_Tape_end_I_ (fun _ h9 => h9) rfl dX10_wordIn_68 ?_
                refine lv_icmp_ge (tgt := 88) hx hb dX10_wordIn_71 (by decide) (fun c_69 => ?_) (fun c_69 => ?_)
                · have k_70 : (te).toInt ≤ (pl_7).toInt := z_le c_69
                  refine lv_iconst (v := 0) hx hb dX10_wordIn_88 (by decide) ?_
                  refine lv_istore (lv' := [(4, .int 0), (6, .int r_44), (5, .int i_9), (3, .int pl_7), (2, .int w_6), (0, .ref h0), (1, .ref (sd sx))]) hx hb dX10_wordIn_89 hl (by decide) rfl (fun ls hl => ?_)
                  obtain ⟨z_71, ez_71⟩ : ∃ y : Int32, y = pl_7 + 1 := ⟨_, rfl⟩
                  have kz_71 : (z_71).toInt = (pl_7).toInt + (1 : Int) := by rw [ez_71]; exact z_add (b := 1) rfl rfl (by omega) (by omega)
                  refine lv_iinc (v := z_71) (lv' := [(3, .int z_71), (4, .int 0), (6, .int r_44), (5, .int i_9), (2, .int w_6), (0, .ref h0), (1, .ref (sd sx))]) hx hb dX10_wordIn_91 hl (k := 3) rfl (by rw [ez_71]; rfl) (by decide) rfl (fun ls hl => ?_)
                  refine lv_goto (tgt := 123) hx hb dX10_wordIn_94 (by decide) ?_
                  obtain ⟨z_72, ez_72⟩ : ∃ y : Int32, y = i_9 + 1 := ⟨_, rfl⟩
                  have kz_72 : (z_72).toInt = (i_9).toInt + (1 : Int) := by rw [ez_72]; exact z_add (b := 1) rfl rfl (by omega) (by omega)
                  refine lv_iinc (v := z_72) (lv' := [(5, .int z_72), (3, .int z_71), (4, .int 0), (6, .int r_44), (2, .int w_6), (0, .ref h0), (1, .ref (sd sx))]) hx hb dX10_wordIn_123 hl (k := 3) rfl (by rw [ez_72]; rfl) (by decide) rfl (fun ls hl => ?_)
                  refine lv_goto (tgt := 23) hx hb dX10_wordIn_126 (by decide) ?_
                  exact ih_5 w_6 z_71 0 z_72 _ _ _ (show (59 - (z_72).toInt).toNat < n_4 by omega) (show ((0 : Int) ≤ (w_6).toInt ∧ (w_6).toInt ≤ (60 : Int)) by omega) (show ((0 : Int) ≤ (z_71).toInt ∧ (z_71).toInt ≤ (800 : Int)) by omega) (show ((0 : Int) ≤ (0 : Int) ∧ (0 : Int) ≤ (1 : Int)) by omega) (show ((0 : Int) ≤ (z_72).toInt ∧ (z_72).toInt ≤ (58 : Int)) by omega) (show f_wI fh1 (ts).toInt (te).toInt (z_72 : Int32).toNatClampNeg (w_6).toInt (z_71).toInt (0 : Int) from f_wI_n hs0 ez_72 (by omega) (by omega) hw_45 (by first | omega | decide) hF_14 (by omega) (by omega) (by first | exact Or.inl (by first | omega | decide) | exact Or.inr (Or.inl (by omega)))) (show (w_6).toInt ≤ (z_72).toInt by omega) (show (z_71).toInt ≤ 700 + (z_72).toInt by omega) (show (z_72).toInt ≤ ((z_len.getD sx 0 : Nat) : Int) + 1 by omega) hP hD hS (lv_sub hl [0, 2, 1, 4, 5, 6] rfl)
                · have k_73 : (te).toInt > (pl_7).toInt := z_nle c_69
                  refine lv_aload_n hx hb dX10_wordIn_74 rfl (lv_at hl 5 rfl) ?_
                  refine lv_iload_n hx hb dX10_wordIn_75 rfl (lv_at hl 3 rfl) ?_
                  have hPc := hP.sub (ws' := [(h0, .inr (10, [.ref h1, .int tt, h0_2, h0_3, h0_4, .int ts, .int te, .int to, .int tg, h0_9, h0_10])), (h1, .inl (ch1, 700, .inl fh1))]) [0, 1] rfl
                  have hDc := hD.sub (ws' := [(h0, .inr (10, [.ref h1, .int tt, h0_2, h0_3, h0_4, .int ts, .int te, .int to, .int tg, h0_9, h0_10])), (h1, .inl (ch1, 700, .inl fh1))]) [0, 1] (by decide) rfl
                  have hKc := hK.sub (tys' := [(ch1, .int)]) [0] rfl
                  have hFc := va_free (ws := []) (wc := []) (z_D0 _) hS hA [] rfl
                  refine va_calli (va_runV (As := [.int pl_7]) (rest := []) ⟨hx, hb, hml, hown, hts⟩ (s_X10_byteAt4 l dC dI H_43.size h0 pl_7 h1 tt h0_2 h0_3 h0_4 (.int ts) (.int te) (.int to) (.int tg) h0_9 h0_10 ch1 fh1 (by first | omega | decide) hI_h1) (cwV 1 hts gw_s_X10_wordIn3_s_X10_byteAt4_50 rfl rfl rfl (by decide +kernel) ⟨Nat.le_of_ble_eq_true rfl, Nat.le_of_ble_eq_true rfl⟩) ⟨z_blind, va_recv hKc hPc (ci := 10) (q0 := 0) rfl rfl, z_pre hPc hKc hDc⟩ rfl rfl hl.1 rfl (lv_room (Nat.le_of_ble_eq_true rfl)) dX10_wordIn_76 ⟨Nat.le_of_ble_eq_true rfl, Nat.le_of_ble_eq_true rfl⟩) hS (fun q _ h => hFc q h) hFc (fun r_75 u t H_74 locs ht hvm hw_76 hB hz1 hk1 hS => ?_)
                  have hP := z_pure hP hk1
                  have hP : va_P (dC, dI) vwCl [(h0, .inr (10, [.ref h1, .int tt, h0_2, h0_3, h0_4, .int ts, .int te, .int to, .int tg, h0_9, h0_10])), (h1, .inl (ch1, 700, .inl fh1))] H_74 := hP
                  have hD : va_D (fun _ => True) [(h0, .inr (10, [.ref h1, .int tt, h0_2, h0_3, h0_4, .int ts, .int te, .int to, .int tg, h0_9, h0_10])), (h1, .inl (ch1, 700, .inl fh1))] := hD
                  clear hPc hDc hKc
                  refine lv_iload hx hb dX10_wordIn_79 (lv_at hl 0 rfl) ?_
                  refine lv_icmp_ne (tgt := 88) hx hb dX10_wordIn_81 (by decide) (fun c_77 => ?_) (fun c_77 => ?_)
                  · have k_78 : (r_75).toInt ≠ (r_44).toInt := z_ne c_77
                    refine lv_iconst (v := 0) hx hb dX10_wordIn_88 (by decide) ?_
                    refine lv_istore (lv' := [(4, .int 0), (6, .int r_44), (5, .int i_9), (3, .int pl_7), (2, .int w_6), (0, .ref h0), (1, .ref (sd sx))]) hx hb dX10_wordIn_89 hl (by decide) rfl (fun ls hl => ?_)
                    obtain ⟨z_79, ez_79⟩ : ∃ y : Int32, y = pl_7 + 1 := ⟨_, rfl⟩
                    have kz_79 : (z_79).toInt = (pl_7).toInt + (1 : Int) := by rw [ez_79]; exact z_add (b := 1) rfl rfl (by omega) (by omega)
                    refine lv_iinc (v := z_79) (lv' := [(3, .int z_79), (4, .int 0), (6, .int r_44), (5, .int i_9), (2, .int w_6), (0, .ref h0), (1, .ref (sd sx))]) hx hb dX10_wordIn_91 hl (k := 3) rfl (by rw [ez_79]; rfl) (by decide) rfl (fun ls hl => ?_)
                    refine lv_goto (tgt := 123) hx hb dX10_wordIn_94 (by decide) ?_
                    obtain ⟨z_80, ez_80⟩ : ∃ y : Int32, y = i_9 + 1 := ⟨_, rfl⟩
                    have kz_80 : (z_80).toInt = (i_9).toInt + (1 : Int) := by rw [ez_80]; exact z_add (b := 1) rfl rfl (by omega) (by omega)
                    refine lv_iinc (v := z_80) (lv' := [(5, .int z_80), (3, .int z_79), (4, .int 0), (6, .int r_44), (2, .int w_6), (0, .ref h0), (1, .ref (sd sx))]) hx hb dX10_wordIn_123 hl (k := 3) rfl (by rw [ez_80]; rfl) (by decide) rfl (fun ls hl => ?_)
                    refine lv_goto (tgt := 23) hx hb dX10_wordIn_126 (by decide) ?_
                    exact ih_5 w_6 z_79 0 z_80 _ _ _ (show (59 - (z_80).toInt).toNat < n_4 by omega) (show ((0 : Int) ≤ (w_6).toInt ∧ (w_6).toInt ≤ (60 : Int)) by omega) (show ((0 : Int) ≤ (z_79).toInt ∧ (z_79).toInt ≤ (800 : Int)) by omega) (show ((0 : Int) ≤ (0 : Int) ∧ (0 : Int) ≤ (1 : Int)) by omega) (show ((0 : Int) ≤ (z_80).toInt ∧ (z_80).toInt ≤ (58 : Int)) by omega) (show f_wI fh1 (ts).toInt (te).toInt (z_80 : Int32).toNatClampNeg (w_6).toInt (z_79).toInt (0 : Int) from f_wI_n hs0 ez_80 (by omega) (by omega) hw_45 (by first | omega | decide) hF_14 (by omega) (by omega) (by first | exact Or.inl (by first | omega | decide) | exact Or.inr (Or.inl (by omega)) | exact Or.inr (Or.inr ⟨_, (hw_76.2.1 (by omega) (by omega)), by omega⟩))) (show (w_6).toInt ≤ (z_80).toInt by omega) (show (z_79).toInt ≤ 700 + (z_80).toInt by omega) (show (z_80).toInt ≤ ((z_len.getD sx 0 : Nat) : Int) + 1 by omega) hP hD hS (lv_sub hl [0, 2, 1, 4, 5, 6] rfl)
                  · have k_81 : (r_75).toInt = (r_44).toInt := z_eq c_77
                    refine lv_iconst (v := 1) hx hb dX10_wordIn_84 (by decide) ?_
                    refine lv_goto (tgt := 89) hx hb dX10_wordIn_85 (by decide) ?_
                    refine lv_istore (lv' := [(4, .int 1), (6, .int r_44), (5, .int i_9), (3, .int pl_7), (2, .int w_6), (0, .ref h0), (1, .ref (sd sx))]) hx hb dX10_wordIn_89 hl (by decide) rfl (fun ls hl => ?_)
                    obtain ⟨z_82, ez_82⟩ : ∃ y : Int32, y = pl_7 + 1 := ⟨_, rfl⟩
                    have kz_82 : (z_82).toInt = (pl_7).toInt + (1 : Int) := by rw [ez_82]; exact z_add (b := 1) rfl rfl (by omega) (by omega)
                    refine lv_iinc (v := z_82) (lv' := [(3, .int z_82), (4, .int 1), (6, .int r_44), (5, .int i_9), (2, .int w_6), (0, .ref h0), (1, .ref (sd sx))]) hx hb dX10_wordIn_91 hl (k := 3) rfl (by rw [ez_82]; rfl) (by decide) rfl (fun ls hl => ?_)
                    refine lv_goto (tgt := 123) hx hb dX10_wordIn_94 (by decide) ?_
                    obtain ⟨z_83, ez_83⟩ : ∃ y : Int32, y = i_9 + 1 := ⟨_, rfl⟩
                    have kz_83 : (z_83).toInt = (i_9).toInt + (1 : Int) := by rw [ez_83]; exact z_add (b := 1) rfl rfl (by omega) (by omega)
                    refine lv_iinc (v := z_83) (lv' := [(5, .int z_83), (3, .int z_82), (4, .int 1), (6, .int r_44), (2, .int w_6), (0, .ref h0), (1, .ref (sd sx))]) hx hb dX10_wordIn_123 hl (k := 3) rfl (by rw [ez_83]; rfl) (by decide) rfl (fun ls hl => ?_)
                    refine lv_goto (tgt := 23) hx hb dX10_wordIn_126 (by decide) ?_
                    exact ih_5 w_6 z_82 1 z_83 _ _ _ (show (59 - (z_83).toInt).toNat < n_4 by omega) (show ((0 : Int) ≤ (w_6).toInt ∧ (w_6).toInt ≤ (60 : Int)) by omega) (show ((0 : Int) ≤ (z_82).toInt ∧ (z_82).toInt ≤ (800 : Int)) by omega) (show ((0 : Int) ≤ (1 : Int) ∧ (1 : Int) ≤ (1 : Int)) by omega) (show ((0 : Int) ≤ (z_83).toInt ∧ (z_83).toInt ≤ (58 : Int)) by omega) (show f_wI fh1 (ts).toInt (te).toInt (z_83 : Int32).toNatClampNeg (w_6).toInt (z_82).toInt (1 : Int) from f_wI_y hs0 ez_83 (by omega) (by omega) hw_45 (by first | omega | decide) hF_14 (by first | omega | decide) (by omega) (by omega) (hw_76.2.1 (by omega) (by omega)) (by omega) (by omega)) (show (w_6).toInt ≤ (z_83).toInt by omega) (show (z_82).toInt ≤ 700 + (z_83).toInt by omega) (show (z_83).toInt ≤ ((z_len.getD sx 0 : Nat) : Int) + 1 by omega) hP hD hS (lv_sub hl [0, 2, 1, 4, 5, 6] rfl)
    exact loop_3 _ 0 ts 1 0 _ _ _ (Nat.lt_succ_self _) (show ((0 : Int) ≤ (0 : Int) ∧ (0 : Int) ≤ (60 : Int)) by omega) (show ((0 : Int) ≤ (ts).toInt ∧ (ts).toInt ≤ (800 : Int)) by omega) (show ((0 : Int) ≤ (1 : Int) ∧ (1 : Int) ≤ (1 : Int)) by omega) (show ((0 : Int) ≤ (0 : Int) ∧ (0 : Int) ≤ (58 : Int)) by omega) (show f_wI fh1 (ts).toInt (te).toInt (0 : Int32).toNatClampNeg (0 : Int) (ts).toInt (1 : Int) from f_wI_0) (show (0 : Int) ≤ (0 : Int) by omega) (show (ts).toInt ≤ 700 + (0 : Int) by omega) (show (0 : Int) ≤ ((z_len.getD sx 0 : Nat) : Int) + 1 by omega) hP hD hS hl
  · have k_84 : (to).toInt ≠ (1 : Int) := z_ne c_1
    refine lv_iconst (v := (-1)) hx hb dX10_wordIn_8 (by decide) ?_
    refine z_backQ hQQ ?_
    refine W.widen (k := 0) (n := 0) (Nat.le_of_ble_eq_true rfl) (Nat.le_of_ble_eq_true rfl) ?_
    exact W.iret (v := (-1)) hx hb hr (fun t ht hW => ⟨⟨(-1), (), rfl, (show ((-1 : Int) ≤ (-1 : Int) ∧ (-1 : Int) ≤ (5 : Int)) ∧ f_wiA fh1 tt.toInt ts.toInt te.toInt (-1 : Int) from ⟨by decide, f_wi_n hC (Or.inl (by omega)) rfl⟩), trivial⟩, hS.F ht⟩) hS.2.2 dX10_wordIn_9
def u_s_X5_hasKindA : List Cond := .code yX5_hasKind cX5_hasKind 2 (some .boolean) :: ([.fieldLink RX5 41 "ShellHeap$Pantry" "kinds" "I"] ++ wsX50)
set_option maxHeartbeats 4000000 in
set_option maxRecDepth 100000 in
theorem s_X5_hasKindA (l : Launch) (dC : Nat → ClassId) (dI : Nat → Nat → Nat) (sz : Nat) (h0 : Nat) (p1 : Int32) (h0_0 : Value) (h0_1 : Value) (h0_2 : Value) (h0_3 : Value) (h0_4 : Value) (h0_5 : Value) (h0_6 : Value) (h0_7 : Value) (h0_8 : Value) (pk : Int32) (hB_pk : ((0 : Int) ≤ (pk).toInt ∧ (pk).toInt ≤ (6 : Int))) : Met l yX5_hasKind u_s_X5_hasKindA ({ frames := 0, cells := 0, slots := 0, locals := 0 }) (va_Pc [.ref h0, .int p1] (z_C (dC, dI) vwCl [(h0, .inr (5, [h0_0, h0_1, h0_2, h0_3, h0_4, h0_5, h0_6, h0_7, h0_8, .int pk]))] [] sz)) (va_Qi (fun (r : Int32) (_ : Unit) => (r = 1 ∧ (0 ≤ p1.toInt ∧ p1.toInt < pk.toInt)) ∨ (r = 0 ∧ ¬ (0 ≤ p1.toInt ∧ p1.toInt < pk.toInt))) (fun (_ : Unit) (_ : State) => True) (va_A [] sz)) 0 0 (va_A [] sz) := by
  refine Met.ofW (cc := cX5_hasKind) (maxL := 2) (ret := (some .boolean)) (by decide) rfl ?_
  intro p e s m args below meth c s₁ B hml hv
  obtain ⟨rfl, hsz, hP, hK, hD0⟩ := hv
  have hx := B.exec
  have hb := B.bytes
  have hr := B.returns
  have hts := atoms_spec (ws := u_s_X5_hasKindA) B.pre
  have hown : s.vm.findClass RX5 = some m.cls := findClass_of_methodNamed B.named
  have hlocks := B.notSynchronized
  subst hsz
  have hD := hD0
  generalize hAe : va_A [] s.heap.size = A
  have hA : ∀ q : Nat, s.heap.size ≤ q → A q := fun q h => by rw [← hAe]; exact Or.inr h
  have hS : va_S A s.heap s.heap [] := va_S.rf
  have hP : va_P (dC, dI) vwCl [(h0, .inr (5, [h0_0, h0_1, h0_2, h0_3, h0_4, h0_5, h0_6, h0_7, h0_8, .int pk]))] s.heap := hP
  have w__fieldLink_RX5_41_ShellHeap_Pantry_kinds_I_ := hts (.fieldLink RX5 41 "ShellHeap$Pantry" "kinds" "I") (by decide +kernel)
  have hiX5 := show ∀ w ∈ u_ws RX5 TX5 10, w ∈ u_s_X5_hasKindA by decide +kernel
  have krr_p1 := z_rng p1
  have hl := lv_entry ([.ref h0, .int p1]) (n := 2) (Nat.le_of_ble_eq_true rfl)
  rw [lg_entry_eq]
  generalize (lg_sl ([.ref h0, .int p1]) ++ List.replicate (2 - (lg_sl ([.ref h0, .int p1])).length) Slot.unset).toArray = ls at hl ⊢
  have hl : lv_has ls 2 [(0, .ref h0), (1, .int p1)] := hl
  refine lv_iload_n hx hb dX5_hasKind_0 rfl (lv_at hl 1 rfl) ?_
  refine lv_if_lt (tgt := 16) hx hb dX5_hasKind_1 (by decide) (fun c_1 => ?_) (fun c_1 => ?_)
  · have k_2 : (p1).toInt < (0 : Int) := z_lt c_1
    refine lv_iconst (v := 0) hx hb dX5_hasKind_16 (by decide) ?_
    refine W.widen (k := 0) (n := 0) (Nat.le_of_ble_eq_true rfl) (Nat.le_of_ble_eq_true rfl) ?_
    exact W.zret (v := 0) hx hb hr (by rfl) (fun t ht hW => ⟨⟨0, (), rfl, (Or.inr (⟨rfl, by first | omega | decide⟩)), trivial⟩, hS.F ht⟩) hS.2.2 dX5_hasKind_17
  · have k_3 : (p1).toInt ≥ (0 : Int) := z_nlt c_1
    refine lv_iload_n hx hb dX5_hasKind_4 rfl (lv_at hl 1 rfl) ?_
    refine lv_aload_n hx hb dX5_hasKind_5 rfl (lv_at hl 0 rfl) ?_
    refine va_get (D := (dC, dI)) (ci := 5) (v := .int pk) (C := RX5) (T := TX5) (N := 10) hx hb hts hiX5 hown hK hP 0 rfl rfl 9 (by decide) w__fieldLink_RX5_41_ShellHeap_Pantry_kinds_I_ (fun _ h9 => h9) rfl dX5_hasKind_6 ?_
    refine lv_icmp_ge (tgt := 16) hx hb dX5_hasKind_9 (by decide) (fun c_4 => ?_) (fun c_4 => ?_)
    · have k_5 : (pk).toInt ≤ (p1).toInt := z_le c_4
      refine lv_iconst (v := 0) hx hb dX5_hasKind_16 (by decide) ?_
      refine W.widen (k := 0) (n := 0) (Nat.le_of_ble_eq_true rfl) (Nat.le_of_ble_eq_true rfl) ?_
      exact W.zret (v := 0) hx hb hr (by rfl) (fun t ht hW => ⟨⟨0, (), rfl, (Or.inr (⟨rfl, by first | omega | decide⟩)), trivial⟩, hS.F ht⟩) hS.2.2 dX5_hasKind_17
    · have k_6 : (pk).toInt > (p1).toInt := z_nle c_4
      refine lv_iconst (v := 1) hx hb dX5_hasKind_12 (by decide) ?_
      refine lv_goto (tgt := 17) hx hb dX5_hasKind_13 (by decide) ?_
      refine W.widen (k := 0) (n := 0) (Nat.le_of_ble_eq_true rfl) (Nat.le_of_ble_eq_true rfl) ?_
      exact W.zret (v := 1) hx hb hr (by rfl) (fun t ht hW => ⟨⟨1, (), rfl, (Or.inl (⟨rfl, by first | omega | decide⟩)), trivial⟩, hS.F ht⟩) hS.2.2 dX5_hasKind_17
