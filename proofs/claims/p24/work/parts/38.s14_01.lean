def u_s_X10_passDigits2 : List Cond := .code yX10_passDigits cX10_passDigits 1 none :: ([.fieldLink RX10 19 "ShellHeap$Tape" "at" "I", .fieldLink RX10 15 "ShellHeap$Tape" "text" "I", .methodLink RX10 50 yX10_byteAt, .instanceMethod yX10_byteAt, .selects RX10 yX10_byteAt yX10_byteAt, .initialized RX10, .methodLink RX10 64 yX10_isDigit, .static yX10_isDigit] ++ (wsX100 ++ (u_s_X10_byteAt2 ++ (u_s_X10_isDigit ++ []))))
theorem gd_s_X10_passDigits2 : z_gd u_s_X10_passDigits2 := z_gdc (by decide +kernel) (z_gda gdX10 (z_gda gd_s_X10_byteAt2 (z_gda gd_s_X10_isDigit (z_gd0))))
set_option maxRecDepth 20000 in
theorem gw_s_X10_passDigits2_s_X10_byteAt2_50 : GoodIn u_s_X10_passDigits2 (wsV RX10 50 RX10 yX10_byteAt u_s_X10_byteAt2) := z_gV (z_gr _ [3, 4, 5, 6] rfl (by decide +kernel)) (fun w h => ⟨z_mc (z_mr (z_mr (z_ml h))), gd_s_X10_byteAt2 w h⟩)
set_option maxRecDepth 20000 in
theorem gw_s_X10_passDigits2_s_X10_isDigit_64 : GoodIn u_s_X10_passDigits2 (va_wsS RX10 64 yX10_isDigit u_s_X10_isDigit) := z_gS (z_gr _ [7, 8, 6] rfl (by decide +kernel)) (fun w h => ⟨z_mc (z_mr (z_mr (z_mr (z_ml h)))), gd_s_X10_isDigit w h⟩)
set_option maxHeartbeats 4000000 in
set_option maxRecDepth 100000 in
theorem s_X10_passDigits2 (l : Launch) (dC : Nat → ClassId) (dI : Nat → Nat → Nat) (sz : Nat) (h0 : Nat) (h1 : Nat) (tt : Int32) (ta : Int32) (h0_3 : Value) (h0_4 : Value) (h0_5 : Value) (h0_6 : Value) (h0_7 : Value) (h0_8 : Value) (h0_9 : Value) (h0_10 : Value) (ch1 : ClassId) (fh1 : Nat → Int32) (hB_tt : ((0 : Int) ≤ (tt).toInt ∧ (tt).toInt ≤ (700 : Int))) (hB_ta : ((0 : Int) ≤ (ta).toInt ∧ (ta).toInt ≤ (700 : Int))) (hI_h1 : ∀ j : Nat, ((0 : Int) ≤ (fh1 j).toInt ∧ (fh1 j).toInt ≤ (255 : Int))) (hle : ta.toInt ≤ tt.toInt) : Met l yX10_passDigits u_s_X10_passDigits2 ({ frames := 1, cells := 0, slots := 0, locals := 21 }) (va_Pc [.ref h0] (z_C (dC, dI) vwCl [(h0, .inr (10, [.ref h1, .int tt, .int ta, h0_3, h0_4, h0_5, h0_6, h0_7, h0_8, h0_9, h0_10])), (h1, .inl (ch1, 700, .inl fh1))] [(ch1, .int)] sz)) (va_Qv (fun (_ : Unit) => True) (fun (_ : Unit) (t : State) => ∃ (n_h0_at : Int32), ((0 : Int) ≤ (n_h0_at).toInt ∧ (n_h0_at).toInt ≤ (700 : Int)) ∧ (ta.toInt ≤ n_h0_at.toInt ∧ n_h0_at.toInt ≤ tt.toInt) ∧ (z_tok fh1 ta.toInt n_h0_at.toInt) ∧ va_P (dC, dI) vwCl [(h0, .inr (10, [.ref h1, .int tt, .int n_h0_at, h0_3, h0_4, h0_5, h0_6, h0_7, h0_8, h0_9, h0_10])), (h1, .inl (ch1, 700, .inl fh1))] t.heap ∧ va_K (dC, dI) vwCl [] t ∧ va_D (va_A [(h0, .inr (10, [.ref h1, .int tt, .int ta, h0_3, h0_4, h0_5, h0_6, h0_7, h0_8, h0_9, h0_10])), (h1, .inl (ch1, 700, .inl fh1))] sz) [(h0, .inr (10, [.ref h1, .int tt, .int n_h0_at, h0_3, h0_4, h0_5, h0_6, h0_7, h0_8, h0_9, h0_10])), (h1, .inl (ch1, 700, .inl fh1))]) (va_A [(h0, .inr (10, [.ref h1, .int tt, .int ta, h0_3, h0_4, h0_5, h0_6, h0_7, h0_8, h0_9, h0_10])), (h1, .inl (ch1, 700, .inl fh1))] sz)) 0 0 (va_A [(h0, .inr (10, [.ref h1, .int tt, .int ta, h0_3, h0_4, h0_5, h0_6, h0_7, h0_8, h0_9, h0_10])), (h1, .inl (ch1, 700, .inl fh1))] sz) := by
  refine Met.ofW (cc := cX10_passDigits) (maxL := 1) (ret := none) (by decide) rfl ?_
  intro p e s m args below meth c s₁ B hml hv
  obtain ⟨rfl, hsz, hP, hK, hD0⟩ := hv
  have hx := B.exec
  have hb := B.bytes
  have hr := B.returns
  have hts := atoms_spec (ws := u_s_X10_passDigits2) B.pre
  have hown : s.vm.findClass RX10 = some m.cls := findClass_of_methodNamed B.named
  have hlocks := B.notSynchronized
  subst hsz
  have hD := hD0.self (sz := s.heap.size)
  generalize hAe : va_A [(h0, .inr (10, [.ref h1, .int tt, .int ta, h0_3, h0_4, h0_5, h0_6, h0_7, h0_8, h0_9, h0_10])), (h1, .inl (ch1, 700, .inl fh1))] s.heap.size = A at hD ⊢
  have hA : ∀ q : Nat, s.heap.size ≤ q → A q := fun q h => by rw [← hAe]; exact Or.inr h
  have hS : va_S A s.heap s.heap [] := va_S.rf
  have hP : va_P (dC, dI) vwCl [(h0, .inr (10, [.ref h1, .int tt, .int ta, h0_3, h0_4, h0_5, h0_6, h0_7, h0_8, h0_9, h0_10])), (h1, .inl (ch1, 700, .inl fh1))] s.heap := hP
  have w__fieldLink_RX10_19_ShellHeap_Tape_at_I_ := hts (.fieldLink RX10 19 "ShellHeap$Tape" "at" "I") (by decide +kernel)
  have hiX10 := show ∀ w ∈ u_ws RX10 TX10 11, w ∈ u_s_X10_passDigits2 from fun w h => z_mc (z_mr (z_ml h))
  have w__fieldLink_RX10_15_ShellHeap_Tape_text_I_ := hts (.fieldLink RX10 15 "ShellHeap$Tape" "text" "I") (by decide +kernel)
  have hl := lv_entry ([.ref h0]) (n := 1) (Nat.le_of_ble_eq_true rfl)
  rw [lg_entry_eq]
  generalize (lg_sl ([.ref h0]) ++ List.replicate (1 - (lg_sl ([.ref h0])).length) Slot.unset).toArray = ls at hl ⊢
  have hl : lv_has ls 1 [(0, .ref h0)] := hl
  refine z_nameQ (fun QQ hQQ => ?_)
  have loop_1 : ∀ (n_2 : Nat) (v_4 : Int32) (H : Heap) (locs : List Loc) (ls : Array Slot), (701 - (v_4).toInt).toNat < n_2 → (((0 : Int) ≤ (v_4).toInt ∧ (v_4).toInt ≤ (700 : Int))) → (z_tok fh1 (ta).toInt (v_4).toInt) → ((ta).toInt ≤ (v_4).toInt ∧ (v_4).toInt ≤ (tt).toInt) → va_P (dC, dI) vwCl [(h0, .inr (10, [.ref h1, .int tt, .int v_4, h0_3, h0_4, h0_5, h0_6, h0_7, h0_8, h0_9, h0_10])), (h1, .inl (ch1, 700, .inl fh1))] H → va_D A [(h0, .inr (10, [.ref h1, .int tt, .int v_4, h0_3, h0_4, h0_5, h0_6, h0_7, h0_8, h0_9, h0_10])), (h1, .inl (ch1, 700, .inl fh1))] → va_S A s.heap H locs → lv_has ls 1 [(0, .ref h0)] → W p l e ({ frames := 1, cells := 0, slots := 0, locals := 21 } : Room) s m ([.ref h0] : List Value).toArray below meth c H locs 0 0 QQ (F0 m 0 ls []) := by
    intro n_2
    induction n_2 with
    | zero => intro v_4 H locs ls hm; exact absurd hm (Nat.not_lt_zero _)
    | succ n_2 ih_3 =>
      intro v_4 H locs ls hm hF_5 hF_6 hF_7 hP hD hS hl
      refine lv_aload_n hx hb dX10_passDigits_0 rfl (lv_at hl 0 rfl) ?_
      refine va_get (D := (dC, dI)) (ci := 10) (v := .int v_4) (C := RX10) (T := TX10) (N := 11) hx hb hts hiX10 hown hK hP 0 rfl rfl 2 (by decide) w__fieldLink_RX10_19_ShellHeap_Tape_at_I_ (fun _ h9 => h9) rfl dX10_passDigits_1 ?_
      refine lv_aload_n hx hb dX10_passDigits_4 rfl (lv_at hl 0 rfl) ?_
      refine va_get (D := (dC, dI)) (ci := 10) (v := .int tt) (C := RX10) (T := TX10) (N := 11) hx hb hts hiX10 hown hK hP 0 rfl rfl 1 (by decide) w__fieldLink_RX10_15_ShellHeap_Tape_text_I_ (fun _ h9 => h9) rfl dX10_passDigits_5 ?_
      refine lv_icmp_ge (tgt := 38) hx hb dX10_passDigits_8 (by decide) (fun c_8 => ?_) (fun c_8 => ?_)
      · have k_9 : (tt).toInt ≤ (v_4).toInt := z_le c_8
        refine z_backQ hQQ ?_
        have hP9 := hP.sub (ws' := [(h0, .inr (10, [.ref h1, .int tt, .int v_4, h0_3, h0_4, h0_5, h0_6, h0_7, h0_8, h0_9, h0_10])), (h1, .inl (ch1, 700, .inl fh1))]) [0, 1] rfl
        have hD9 := hD.sub (ws' := [(h0, .inr (10, [.ref h1, .int tt, .int v_4, h0_3, h0_4, h0_5, h0_6, h0_7, h0_8, h0_9, h0_10])), (h1, .inl (ch1, 700, .inl fh1))]) [0, 1] (by decide) rfl
        have hK9 := hK.sub (tys' := []) [] rfl
        refine W.widen (k := 0) (n := 0) (Nat.le_of_ble_eq_true rfl) (Nat.le_of_ble_eq_true rfl) ?_
        exact W.vret hx hb hr (fun t ht hW => ⟨⟨(), rfl, trivial, ⟨v_4, (by first | omega | decide), (show ta.toInt ≤ v_4.toInt ∧ v_4.toInt ≤ tt.toInt by omega), hF_6, by rw [ht]; exact hP9, va_K.moved hW.alike hK9, hD9⟩⟩, hS.F ht⟩) hS.2.2 dX10_passDigits_38
      · have k_10 : (tt).toInt > (v_4).toInt := z_nle c_8
        refine lv_aload_n hx hb dX10_passDigits_11 rfl (lv_at hl 0 rfl) ?_
        refine lv_aload_n hx hb dX10_passDigits_12 rfl (lv_at hl 0 rfl) ?_
        refine va_get (D := (dC, dI)) (ci := 10) (v := .int v_4) (C := RX10) (T := TX10) (N := 11) hx hb hts hiX10 hown hK hP 0 rfl rfl 2 (by decide) w__fieldLink_RX10_19_ShellHeap_Tape_at_I_ (fun _ h9 => h9) rfl dX10_passDigits_13 ?_
        have hPc := hP.sub (ws' := [(h0, .inr (10, [.ref h1, .int tt, .int v_4, h0_3, h0_4, h0_5, h0_6, h0_7, h0_8, h0_9, h0_10])), (h1, .inl (ch1, 700, .inl fh1))]) [0, 1] rfl
        have hDc := hD.sub (ws' := [(h0, .inr (10, [.ref h1, .int tt, .int v_4, h0_3, h0_4, h0_5, h0_6, h0_7, h0_8, h0_9, h0_10])), (h1, .inl (ch1, 700, .inl fh1))]) [0, 1] (by decide) rfl
        have hKc := hK.sub (tys' := [(ch1, .int)]) [0] rfl
        have hFc := va_free (ws := []) (wc := []) (z_D0 _) hS hA [] rfl
        refine va_calli (va_runV (As := [.int v_4]) (rest := []) ⟨hx, hb, hml, hown, hts⟩ (s_X10_byteAt2 l dC dI H.size h0 v_4 h1 tt (.int v_4) h0_3 h0_4 h0_5 h0_6 h0_7 h0_8 h0_9 h0_10 ch1 fh1 (by first | omega | decide) hI_h1) (cwV 1 hts gw_s_X10_passDigits2_s_X10_byteAt2_50 rfl rfl rfl (by decide +kernel) ⟨Nat.le_of_ble_eq_true rfl, Nat.le_of_ble_eq_true rfl⟩) ⟨z_blind, va_recv hKc hPc (ci := 10) (q0 := 0) rfl rfl, z_pre hPc hKc hDc⟩ rfl rfl hl.1 rfl (lv_room (Nat.le_of_ble_eq_true rfl)) dX10_passDigits_16 ⟨Nat.le_of_ble_eq_true rfl, Nat.le_of_ble_eq_true rfl⟩) hS (fun q _ h => hFc q h) hFc (fun r_12 u t H_11 locs ht hvm hw_13 hB hz1 hk1 hS => ?_)
        have hP := z_pure hP hk1
        have hP : va_P (dC, dI) vwCl [(h0, .inr (10, [.ref h1, .int tt, .int v_4, h0_3, h0_4, h0_5, h0_6, h0_7, h0_8, h0_9, h0_10])), (h1, .inl (ch1, 700, .inl fh1))] H_11 := hP
        have hD : va_D A [(h0, .inr (10, [.ref h1, .int tt, .int v_4, h0_3, h0_4, h0_5, h0_6, h0_7, h0_8, h0_9, h0_10])), (h1, .inl (ch1, 700, .inl fh1))] := hD
        clear hPc hDc hKc
        have hPc := hP.sub (ws' := []) [] rfl
        have hDc := hD.sub (ws' := []) [] (by decide) rfl
        have hKc := hK.sub (tys' := []) [] rfl
        have hFc := va_free (ws := []) (wc := []) (z_D0 _) hS hA [] rfl
        refine va_calli (va_runS (As := [.int r_12]) (rest := []) ⟨hx, hb, hml, hown, hts⟩ (s_X10_isDigit l dC dI H_11.size r_12) (va_cwS 1 hts gw_s_X10_passDigits2_s_X10_isDigit_64 rfl rfl rfl (by decide +kernel) ⟨Nat.le_of_ble_eq_true rfl, Nat.le_of_ble_eq_true rfl⟩) ⟨z_blind, z_pre hPc hKc hDc⟩ rfl rfl hl.1 rfl (lv_room (Nat.le_of_ble_eq_true rfl)) dX10_passDigits_19 ⟨Nat.le_of_ble_eq_true rfl, Nat.le_of_ble_eq_true rfl⟩) hS (fun q _ h => hFc q h) hFc (fun r_15 u t H_14 locs ht hvm hw_16 hB hz1 hk1 hS => ?_)
        have hP := z_pure hP hk1
        have hP : va_P (dC, dI) vwCl [(h0, .inr (10, [.ref h1, .int tt, .int v_4, h0_3, h0_4, h0_5, h0_6, h0_7, h0_8, h0_9, h0_10])), (h1, .inl (ch1, 700, .inl fh1))] H_14 := hP
        have hD : va_D A [(h0, .inr (10, [.ref h1, .int tt, .int v_4, h0_3, h0_4, h0_5, h0_6, h0_7, h0_8, h0_9, h0_10])), (h1, .inl (ch1, 700, .inl fh1))] := hD
        clear hPc hDc hKc
        rcases hw_16 with ⟨rfl, hw_16⟩ | ⟨rfl, hw_16⟩
        · have hw_16 : (48 ≤ r_12.toInt ∧ r_12.toInt ≤ 57) := hw_16
          refine lv_if_eq (tgt := 38) hx hb dX10_passDigits_22 (by decide) (fun c_17 => absurd c_17 (by decide)) (fun _ => ?_)
          refine lv_aload_n hx hb dX10_passDigits_25 rfl (lv_at hl 0 rfl) ?_
          refine lv_dup hx hb dX10_passDigits_26 rfl ?_
          refine va_get (D := (dC, dI)) (ci := 10) (v := .int v_4) (C := RX10) (T := TX10) (N := 11) hx hb hts hiX10 hown hK hP 0 rfl rfl 2 (by decide) w__fieldLink_RX10_19_ShellHeap_Tape_at_I_ (fun _ h9 => h9) rfl dX10_passDigits_27 ?_
          refine lv_iconst (v := 1) hx hb dX10_passDigits_30 (by decide) ?_
          refine lv_iadd hx hb dX10_passDigits_31 ?_
          refine lv_topi (fun z_18 ez_18 => ?_)
          have kz_18 : (z_18).toInt = (v_4).toInt + (1 : Int) := by rw [ez_18]; exact z_add (a := (v_4).toInt) (b := (1 : Int)) rfl rfl (by omega) (by omega)
          refine va_put (D := (dC, dI)) (ci := 10) (v := .int z_18) (ty := .int) (C := RX10) (T := TX10) (N := 11) hx hb hts hiX10 tyX10 tyX10_ok nmX10 hown hK hP hD hS 0 rfl rfl 2 (by decide) w__fieldLink_RX10_19_ShellHeap_Tape_at_I_ (fun _ h9 => h9) rfl (by decide +kernel) rfl rfl (Nat.le_of_ble_eq_true rfl) dX10_passDigits_32 (fun H_19 locs hP hD hS => ?_)
          have hP : va_P (dC, dI) vwCl [(h0, .inr (10, [.ref h1, .int tt, .int z_18, h0_3, h0_4, h0_5, h0_6, h0_7, h0_8, h0_9, h0_10])), (h1, .inl (ch1, 700, .inl fh1))] H_19 := hP
          have hD : va_D A [(h0, .inr (10, [.ref h1, .int tt, .int z_18, h0_3, h0_4, h0_5, h0_6, h0_7, h0_8, h0_9, h0_10])), (h1, .inl (ch1, 700, .inl fh1))] := hD
          refine lv_goto (tgt := 0) hx hb dX10_passDigits_35 (by decide) ?_
          exact ih_3 z_18 _ _ _ (show (701 - (z_18).toInt).toNat < n_2 by omega) (show ((0 : Int) ≤ (z_18).toInt ∧ (z_18).toInt ≤ (700 : Int)) by omega) (show z_tok fh1 (ta).toInt (z_18).toInt from z_tok1 (i := v_4) (r := r_12) hF_6 rfl (by omega) (hw_13.2 (by omega) (by omega)) (by omega) (by omega)) (show (ta).toInt ≤ (z_18).toInt ∧ (z_18).toInt ≤ (tt).toInt by omega) hP hD hS (lv_sub hl [0] rfl)
        · have hw_16 : True := hw_16
          refine lv_if_eq (tgt := 38) hx hb dX10_passDigits_22 (by decide) (fun _ => ?_) (fun c_20 => absurd (by decide) c_20)
          refine z_backQ hQQ ?_
          have hP9 := hP.sub (ws' := [(h0, .inr (10, [.ref h1, .int tt, .int v_4, h0_3, h0_4, h0_5, h0_6, h0_7, h0_8, h0_9, h0_10])), (h1, .inl (ch1, 700, .inl fh1))]) [0, 1] rfl
          have hD9 := hD.sub (ws' := [(h0, .inr (10, [.ref h1, .int tt, .int v_4, h0_3, h0_4, h0_5, h0_6, h0_7, h0_8, h0_9, h0_10])), (h1, .inl (ch1, 700, .inl fh1))]) [0, 1] (by decide) rfl
          have hK9 := hK.sub (tys' := []) [] rfl
          refine W.widen (k := 0) (n := 0) (Nat.le_of_ble_eq_true rfl) (Nat.le_of_ble_eq_true rfl) ?_
          exact W.vret hx hb hr (fun t ht hW => ⟨⟨(), rfl, trivial, ⟨v_4, (by first | omega | decide), (show ta.toInt ≤ v_4.toInt ∧ v_4.toInt ≤ tt.toInt by omega), hF_6, by rw [ht]; exact hP9, va_K.moved hW.alike hK9, hD9⟩⟩, hS.F ht⟩) hS.2.2 dX10_passDigits_38
  exact loop_1 _ ta _ _ _ (Nat.lt_succ_self _) (show ((0 : Int) ≤ (ta).toInt ∧ (ta).toInt ≤ (700 : Int)) by omega) (show z_tok fh1 (ta).toInt (ta).toInt from z_tok0) (show (ta).toInt ≤ (ta).toInt ∧ (ta).toInt ≤ (tt).toInt by omega) hP hD hS hl
def u_s_X10_passSign2 : List Cond := .code yX10_passSign cX10_passSign 1 none :: ([.fieldLink RX10 19 "ShellHeap$Tape" "at" "I", .methodLink RX10 50 yX10_byteAt, .instanceMethod yX10_byteAt, .selects RX10 yX10_byteAt yX10_byteAt, .initialized RX10, .fieldLink RX10 38 "ShellHeap$Tape" "sign" "I"] ++ (wsX100 ++ (u_s_X10_byteAt ++ [])))
theorem gd_s_X10_passSign2 : z_gd u_s_X10_passSign2 := z_gdc (by decide +kernel) (z_gda gdX10 (z_gda gd_s_X10_byteAt (z_gd0)))
set_option maxRecDepth 20000 in
theorem gw_s_X10_passSign2_s_X10_byteAt_50 : GoodIn u_s_X10_passSign2 (wsV RX10 50 RX10 yX10_byteAt u_s_X10_byteAt) := z_gV (z_gr _ [2, 3, 4, 5] rfl (by decide +kernel)) (fun w h => ⟨z_mc (z_mr (z_mr (z_ml h))), gd_s_X10_byteAt w h⟩)
set_option maxHeartbeats 4000000 in
set_option maxRecDepth 100000 in
theorem s_X10_passSign2 (l : Launch) (dC : Nat → ClassId) (dI : Nat → Nat → Nat) (sz : Nat) (h0 : Nat) (h1 : Nat) (tt : Int32) (ta : Int32) (h0_3 : Value) (h0_4 : Value) (h0_5 : Value) (h0_6 : Value) (h0_7 : Value) (tg : Int32) (h0_9 : Value) (h0_10 : Value) (ch1 : ClassId) (fh1 : Nat → Int32) (hB_tt : ((0 : Int) ≤ (tt).toInt ∧ (tt).toInt ≤ (700 : Int))) (hB_ta : ((0 : Int) ≤ (ta).toInt ∧ (ta).toInt ≤ (700 : Int))) (hI_h1 : ∀ j : Nat, ((0 : Int) ≤ (fh1 j).toInt ∧ (fh1 j).toInt ≤ (255 : Int))) (hat : ta.toInt < tt.toInt) : Met l yX10_passSign u_s_X10_passSign2 ({ frames := 1, cells := 0, slots := 0, locals := 21 }) (va_Pc [.ref h0] (z_C (dC, dI) vwCl [(h0, .inr (10, [.ref h1, .int tt, .int ta, h0_3, h0_4, h0_5, h0_6, h0_7, .int tg, h0_9, h0_10])), (h1, .inl (ch1, 700, .inl fh1))] [(ch1, .int)] sz)) (va_Qv (fun (_ : Unit) => True) (fun (_ : Unit) (t : State) => ∃ (n_h0_at : Int32), ∃ (n_h0_sign : Int32), ((0 : Int) ≤ (n_h0_at).toInt ∧ (n_h0_at).toInt ≤ (700 : Int)) ∧ (n_h0_at.toInt ≤ tt.toInt) ∧ va_P (dC, dI) vwCl [(h0, .inr (10, [.ref h1, .int tt, .int n_h0_at, h0_3, h0_4, h0_5, h0_6, h0_7, .int n_h0_sign, h0_9, h0_10])), (h1, .inl (ch1, 700, .inl fh1))] t.heap ∧ va_K (dC, dI) vwCl [] t ∧ va_D (va_A [(h0, .inr (10, [.ref h1, .int tt, .int ta, h0_3, h0_4, h0_5, h0_6, h0_7, .int tg, h0_9, h0_10])), (h1, .inl (ch1, 700, .inl fh1))] sz) [(h0, .inr (10, [.ref h1, .int tt, .int n_h0_at, h0_3, h0_4, h0_5, h0_6, h0_7, .int n_h0_sign, h0_9, h0_10])), (h1, .inl (ch1, 700, .inl fh1))]) (va_A [(h0, .inr (10, [.ref h1, .int tt, .int ta, h0_3, h0_4, h0_5, h0_6, h0_7, .int tg, h0_9, h0_10])), (h1, .inl (ch1, 700, .inl fh1))] sz)) 0 0 (va_A [(h0, .inr (10, [.ref h1, .int tt, .int ta, h0_3, h0_4, h0_5, h0_6, h0_7, .int tg, h0_9, h0_10])), (h1, .inl (ch1, 700, .inl fh1))] sz) := by
  refine Met.ofW (cc := cX10_passSign) (maxL := 1) (ret := none) (by decide) rfl ?_
  intro p e s m args below meth c s₁ B hml hv
  obtain ⟨rfl, hsz, hP, hK, hD0⟩ := hv
  have hx := B.exec
  have hb := B.bytes
  have hr := B.returns
  have hts := atoms_spec (ws := u_s_X10_passSign2) B.pre
  have hown : s.vm.findClass RX10 = some m.cls := findClass_of_methodNamed B.named
  have hlocks := B.notSynchronized
  subst hsz
  have hD := hD0.self (sz := s.heap.size)
  generalize hAe : va_A [(h0, .inr (10, [.ref h1, .int tt, .int ta, h0_3, h0_4, h0_5, h0_6, h0_7, .int tg, h0_9, h0_10])), (h1, .inl (ch1, 700, .inl fh1))] s.heap.size = A at hD ⊢
  have hA : ∀ q : Nat, s.heap.size ≤ q → A q := fun q h => by rw [← hAe]; exact Or.inr h
  have hS : va_S A s.heap s.heap [] := va_S.rf
  have hP : va_P (dC, dI) vwCl [(h0, .inr (10, [.ref h1, .int tt, .int ta, h0_3, h0_4, h0_5, h0_6, h0_7, .int tg, h0_9, h0_10])), (h1, .inl (ch1, 700, .inl fh1))] s.heap := hP
  have w__fieldLink_RX10_19_ShellHeap_Tape_at_I_ := hts (.fieldLink RX10 19 "ShellHeap$Tape" "at" "I") (by decide +kernel)
  have hiX10 := show ∀ w ∈ u_ws RX10 TX10 11, w ∈ u_s_X10_passSign2 from fun w h => z_mc (z_mr (z_ml h))
  have w__fieldLink_RX10_38_ShellHeap_Tape_sign_I_ := hts (.fieldLink RX10 38 "ShellHeap$Tape" "sign" "I") (by decide +kernel)
  have hl := lv_entry ([.ref h0]) (n := 1) (Nat.le_of_ble_eq_true rfl)
  rw [lg_entry_eq]
  generalize (lg_sl ([.ref h0]) ++ List.replicate (1 - (lg_sl ([.ref h0])).length) Slot.unset).toArray = ls at hl ⊢
  have hl : lv_has ls 1 [(0, .ref h0)] := hl
  refine lv_aload_n hx hb dX10_passSign_0 rfl (lv_at hl 0 rfl) ?_
  refine lv_aload_n hx hb dX10_passSign_1 rfl (lv_at hl 0 rfl) ?_
  refine lv_aload_n hx hb dX10_passSign_2 rfl (lv_at hl 0 rfl) ?_
  refine va_get (D := (dC, dI)) (ci := 10) (v := .int ta) (C := RX10) (T := TX10) (N := 11) hx hb hts hiX10 hown hK hP 0 rfl rfl 2 (by decide) w__fieldLink_RX10_19_ShellHeap_Tape_at_I_ (fun _ h9 => h9) rfl dX10_passSign_3 ?_
  have hPc := hP.sub (ws' := [(h0, .inr (10, [.ref h1, .int tt, .int ta, h0_3, h0_4, h0_5, h0_6, h0_7, .int tg, h0_9, h0_10])), (h1, .inl (ch1, 700, .inl fh1))]) [0, 1] rfl
  have hDc := hD.sub (ws' := [(h0, .inr (10, [.ref h1, .int tt, .int ta, h0_3, h0_4, h0_5, h0_6, h0_7, .int tg, h0_9, h0_10])), (h1, .inl (ch1, 700, .inl fh1))]) [0, 1] (by decide) rfl
  have hKc := hK.sub (tys' := [(ch1, .int)]) [0] rfl
  have hFc := va_free (ws := []) (wc := []) (z_D0 _) hS hA [] rfl
  refine va_calli (va_runV (As := [.int ta]) (rest := [.ref h0]) ⟨hx, hb, hml, hown, hts⟩ (s_X10_byteAt l dC dI s.heap.size h0 ta h1 tt (.int ta) h0_3 h0_4 h0_5 h0_6 h0_7 (.int tg) h0_9 h0_10 ch1 fh1 (by first | omega | decide) hI_h1) (cwV 1 hts gw_s_X10_passSign2_s_X10_byteAt_50 rfl rfl rfl (by decide +kernel) ⟨Nat.le_of_ble_eq_true rfl, Nat.le_of_ble_eq_true rfl⟩) ⟨z_blind, va_recv hKc hPc (ci := 10) (q0 := 0) rfl rfl, z_pre hPc hKc hDc⟩ rfl rfl hl.1 rfl (lv_room (Nat.le_of_ble_eq_true rfl)) dX10_passSign_6 ⟨Nat.le_of_ble_eq_true rfl, Nat.le_of_ble_eq_true rfl⟩) hS (fun q _ h => hFc q h) hFc (fun r_2 u t H_1 locs ht hvm hw_3 hB hz1 hk1 hS => ?_)
  have hP := z_pure hP hk1
  have hP : va_P (dC, dI) vwCl [(h0, .inr (10, [.ref h1, .int tt, .int ta, h0_3, h0_4, h0_5, h0_6, h0_7, .int tg, h0_9, h0_10])), (h1, .inl (ch1, 700, .inl fh1))] H_1 := hP
  have hD : va_D A [(h0, .inr (10, [.ref h1, .int tt, .int ta, h0_3, h0_4, h0_5, h0_6, h0_7, .int tg, h0_9, h0_10])), (h1, .inl (ch1, 700, .inl fh1))] := hD
  clear hPc hDc hKc
  refine va_put (D := (dC, dI)) (ci := 10) (v := .int r_2) (ty := .int) (C := RX10) (T := TX10) (N := 11) hx hb hts hiX10 tyX10 tyX10_ok nmX10 hown hK hP hD hS 0 rfl rfl 8 (by decide) w__fieldLink_RX10_38_ShellHeap_Tape_sign_I_ (fun _ h9 => h9) rfl (by decide +kernel) rfl rfl (Nat.le_of_ble_eq_true rfl) dX10_passSign_9 (fun H_4 locs hP hD hS => ?_)
  have hP : va_P (dC, dI) vwCl [(h0, .inr (10, [.ref h1, .int tt, .int ta, h0_3, h0_4, h0_5, h0_6, h0_7, .int r_2, h0_9, h0_10])), (h1, .inl (ch1, 700, .inl fh1))] H_4 := hP
  have hD : va_D A [(h0, .inr (10, [.ref h1, .int tt, .int ta, h0_3, h0_4, h0_5, h0_6, h0_7, .int r_2, h0_9, h0_10])), (h1, .inl (ch1, 700, .inl fh1))] := hD
  refine lv_aload_n hx hb dX10_passSign_12 rfl (lv_at hl 0 rfl) ?_
  refine lv_dup hx hb dX10_passSign_13 rfl ?_
  refine va_get (D := (dC, dI)) (ci := 10) (v := .int ta) (C := RX10) (T := TX10) (N := 11) hx hb hts hiX10 hown hK hP 0 rfl rfl 2 (by decide) w__fieldLink_RX10_19_ShellHeap_Tape_at_I_ (fun _ h9 => h9) rfl dX10_passSign_14 ?_
  refine lv_iconst (v := 1) hx hb dX10_passSign_17 (by decide) ?_
  refine lv_iadd hx hb dX10_passSign_18 ?_
  refine lv_topi (fun z_5 ez_5 => ?_)
  have kz_5 : (z_5).toInt = (ta).toInt + (1 : Int) := by rw [ez_5]; exact z_add (a := (ta).toInt) (b := (1 : Int)) rfl rfl (by omega) (by omega)
  refine va_put (D := (dC, dI)) (ci := 10) (v := .int z_5) (ty := .int) (C := RX10) (T := TX10) (N := 11) hx hb hts hiX10 tyX10 tyX10_ok nmX10 hown hK hP hD hS 0 rfl rfl 2 (by decide) w__fieldLink_RX10_19_ShellHeap_Tape_at_I_ (fun _ h9 => h9) rfl (by decide +kernel) rfl rfl (Nat.le_of_ble_eq_true rfl) dX10_passSign_19 (fun H_6 locs hP hD hS => ?_)
  have hP : va_P (dC, dI) vwCl [(h0, .inr (10, [.ref h1, .int tt, .int z_5, h0_3, h0_4, h0_5, h0_6, h0_7, .int r_2, h0_9, h0_10])), (h1, .inl (ch1, 700, .inl fh1))] H_6 := hP
  have hD : va_D A [(h0, .inr (10, [.ref h1, .int tt, .int z_5, h0_3, h0_4, h0_5, h0_6, h0_7, .int r_2, h0_9, h0_10])), (h1, .inl (ch1, 700, .inl fh1))] := hD
  refine lv_aload_n hx hb dX10_passSign_22 rfl (lv_at hl 0 rfl) ?_
  refine va_get (D := (dC, dI)) (ci := 10) (v := .int r_2) (C := RX10) (T := TX10) (N := 11) hx hb hts hiX10 hown hK hP 0 rfl rfl 8 (by decide) w__fieldLink_RX10_38_ShellHeap_Tape_sign_I_ (fun _ h9 => h9) rfl dX10_passSign_23 ?_
  refine lv_bipush (v := 60) hx hb dX10_passSign_26 (by decide) ?_
  refine lv_icmp_eq (tgt := 40) hx hb dX10_passSign_28 (by decide) (fun c_7 => ?_) (fun c_7 => ?_)
  · have k_8 : (r_2).toInt = (60 : Int) := z_eq c_7
    obtain rfl : r_2 = 60 := z_eq' (show (r_2).toInt = (60 : Int) by omega)
    refine lv_aload_n hx hb dX10_passSign_40 rfl (lv_at hl 0 rfl) ?_
    refine lv_aload_n hx hb dX10_passSign_41 rfl (lv_at hl 0 rfl) ?_
    refine va_get (D := (dC, dI)) (ci := 10) (v := .int z_5) (C := RX10) (T := TX10) (N := 11) hx hb hts hiX10 hown hK hP 0 rfl rfl 2 (by decide) w__fieldLink_RX10_19_ShellHeap_Tape_at_I_ (fun _ h9 => h9) rfl dX10_passSign_42 ?_
    have hPc := hP.sub (ws' := [(h0, .inr (10, [.ref h1, .int tt, .int z_5, h0_3, h0_4, h0_5, h0_6, h0_7, .int 60, h0_9, h0_10])), (h1, .inl (ch1, 700, .inl fh1))]) [0, 1] rfl
    have hDc := hD.sub (ws' := [(h0, .inr (10, [.ref h1, .int tt, .int z_5, h0_3, h0_4, h0_5, h0_6, h0_7, .int 60, h0_9, h0_10])), (h1, .inl (ch1, 700, .inl fh1))]) [0, 1] (by decide) rfl
    have hKc := hK.sub (tys' := [(ch1, .int)]) [0] rfl
    have hFc := va_free (ws := []) (wc := []) (z_D0 _) hS hA [] rfl
    refine va_calli (va_runV (As := [.int z_5]) (rest := []) ⟨hx, hb, hml, hown, hts⟩ (s_X10_byteAt l dC dI H_6.size h0 z_5 h1 tt (.int z_5) h0_3 h0_4 h0_5 h0_6 h0_7 (.int 60) h0_9 h0_10 ch1 fh1 (by first | omega | decide) hI_h1) (cwV 1 hts gw_s_X10_passSign2_s_X10_byteAt_50 rfl rfl rfl (by decide +kernel) ⟨Nat.le_of_ble_eq_true rfl, Nat.le_of_ble_eq_true rfl⟩) ⟨z_blind, va_recv hKc hPc (ci := 10) (q0 := 0) rfl rfl, z_pre hPc hKc hDc⟩ rfl rfl hl.1 rfl (lv_room (Nat.le_of_ble_eq_true rfl)) dX10_passSign_45 ⟨Nat.le_of_ble_eq_true rfl, Nat.le_of_ble_eq_true rfl⟩) hS (fun q _ h => hFc q h) hFc (fun r_11 u t H_10 locs ht hvm hw_12 hB hz1 hk1 hS => ?_)
    have hP := z_pure hP hk1
    have hP : va_P (dC, dI) vwCl [(h0, .inr (10, [.ref h1, .int tt, .int z_5, h0_3, h0_4, h0_5, h0_6, h0_7, .int 60, h0_9, h0_10])), (h1, .inl (ch1, 700, .inl fh1))] H_10 := hP
    have hD : va_D A [(h0, .inr (10, [.ref h1, .int tt, .int z_5, h0_3, h0_4, h0_5, h0_6, h0_7, .int 60, h0_9, h0_10])), (h1, .inl (ch1, 700, .inl fh1))] := hD
    clear hPc hDc hKc
    refine lv_bipush (v := 61) hx hb dX10_passSign_48 (by decide) ?_
    refine lv_icmp_eq (tgt := 66) hx hb dX10_passSign_50 (by decide) (fun c_13 => ?_) (fun c_13 => ?_)
    · have k_14 : (r_11).toInt = (61 : Int) := z_eq c_13
      obtain rfl : r_11 = 61 := z_eq' (show (r_11).toInt = (61 : Int) by omega)
      refine lv_aload_n hx hb dX10_passSign_66 rfl (lv_at hl 0 rfl) ?_
      refine lv_dup hx hb dX10_passSign_67 rfl ?_
      refine va_get (D := (dC, dI)) (ci := 10) (v := .int 60) (C := RX10) (T := TX10) (N := 11) hx hb hts hiX10 hown hK hP 0 rfl rfl 8 (by decide) w__fieldLink_RX10_38_ShellHeap_Tape_sign_I_ (fun _ h9 => h9) rfl dX10_passSign_68 ?_
      refine lv_sipush (v := 256) hx hb dX10_passSign_71 (by decide) ?_
      refine lv_aload_n hx hb dX10_passSign_74 rfl (lv_at hl 0 rfl) ?_
      refine lv_aload_n hx hb dX10_passSign_75 rfl (lv_at hl 0 rfl) ?_
      refine va_get (D := (dC, dI)) (ci := 10) (v := .int z_5) (C := RX10) (T := TX10) (N := 11) hx hb hts hiX10 hown hK hP 0 rfl rfl 2 (by decide) w__fieldLink_RX10_19_ShellHeap_Tape_at_I_ (fun _ h9 => h9) rfl dX10_passSign_76 ?_
      have hPc := hP.sub (ws' := [(h0, .inr (10, [.ref h1, .int tt, .int z_5, h0_3, h0_4, h0_5, h0_6, h0_7, .int 60, h0_9, h0_10])), (h1, .inl (ch1, 700, .inl fh1))]) [0, 1] rfl
      have hDc := hD.sub (ws' := [(h0, .inr (10, [.ref h1, .int tt, .int z_5, h0_3, h0_4, h0_5, h0_6, h0_7, .int 60, h0_9, h0_10])), (h1, .inl (ch1, 700, .inl fh1))]) [0, 1] (by decide) rfl
      have hKc := hK.sub (tys' := [(ch1, .int)]) [0] rfl
      have hFc := va_free (ws := []) (wc := []) (z_D0 _) hS hA [] rfl
      refine va_calli (va_runV (As := [.int z_5]) (rest := [.int 256, .int 60, .ref h0]) ⟨hx, hb, hml, hown, hts⟩ (s_X10_byteAt l dC dI H_10.size h0 z_5 h1 tt (.int z_5) h0_3 h0_4 h0_5 h0_6 h0_7 (.int 60) h0_9 h0_10 ch1 fh1 (by first | omega | decide) hI_h1) (cwV 1 hts gw_s_X10_passSign2_s_X10_byteAt_50 rfl rfl rfl (by decide +kernel) ⟨Nat.le_of_ble_eq_true rfl, Nat.le_of_ble_eq_true rfl⟩) ⟨z_blind, va_recv hKc hPc (ci := 10) (q0 := 0) rfl rfl, z_pre hPc hKc hDc⟩ rfl rfl hl.1 rfl (lv_room (Nat.le_of_ble_eq_true rfl)) dX10_passSign_79 ⟨Nat.le_of_ble_eq_true rfl, Nat.le_of_ble_eq_true rfl⟩) hS (fun q _ h => hFc q h) hFc (fun r_17 u t H_16 locs ht hvm hw_18 hB hz1 hk1 hS => ?_)
      have hP := z_pure hP hk1
      have hP : va_P (dC, dI) vwCl [(h0, .inr (10, [.ref h1, .int tt, .int z_5, h0_3, h0_4, h0_5, h0_6, h0_7, .int 60, h0_9, h0_10])), (h1, .inl (ch1, 700, .inl fh1))] H_16 := hP
      have hD : va_D A [(h0, .inr (10, [.ref h1, .int tt, .int z_5, h0_3, h0_4, h0_5, h0_6, h0_7, .int 60, h0_9, h0_10])), (h1, .inl (ch1, 700, .inl fh1))] := hD
      clear hPc hDc hKc
      refine lv_imul hx hb dX10_passSign_82 ?_
      refine lv_topi (fun z_19 ez_19 => ?_)
      have kz_19 : (z_19).toInt = (256 : Int) * (r_17).toInt := by rw [ez_19]; exact z_mul (a := (256 : Int)) (b := (r_17).toInt) rfl rfl (by omega) (by omega)
      refine lv_iadd hx hb dX10_passSign_83 ?_
      refine lv_topi (fun z_20 ez_20 => ?_)
      have kz_20 : (z_20).toInt = (60 : Int) + (z_19).toInt := by rw [ez_20]; exact z_add (a := (60 : Int)) (b := (z_19).toInt) rfl rfl (by omega) (by omega)
      refine va_put (D := (dC, dI)) (ci := 10) (v := .int z_20) (ty := .int) (C := RX10) (T := TX10) (N := 11) hx hb hts hiX10 tyX10 tyX10_ok nmX10 hown hK hP hD hS 0 rfl rfl 8 (by decide) w__fieldLink_RX10_38_ShellHeap_Tape_sign_I_ (fun _ h9 => h9) rfl (by decide +kernel) rfl rfl (Nat.le_of_ble_eq_true rfl) dX10_passSign_84 (fun H_21 locs hP hD hS => ?_)
      have hP : va_P (dC, dI) vwCl [(h0, .inr (10, [.ref h1, .int tt, .int z_5, h0_3, h0_4, h0_5, h0_6, h0_7, .int z_20, h0_9, h0_10])), (h1, .inl (ch1, 700, .inl fh1))] H_21 := hP
      have hD : va_D A [(h0, .inr (10, [.ref h1, .int tt, .int z_5, h0_3, h0_4, h0_5, h0_6, h0_7, .int z_20, h0_9, h0_10])), (h1, .inl (ch1, 700, .inl fh1))] := hD
      refine lv_aload_n hx hb dX10_passSign_87 rfl (lv_at hl 0 rfl) ?_
      refine lv_dup hx hb dX10_passSign_88 rfl ?_
      refine va_get (D := (dC, dI)) (ci := 10) (v := .int z_5) (C := RX10) (T := TX10) (N := 11) hx hb hts hiX10 hown hK hP 0 rfl rfl 2 (by decide) w__fieldLink_RX10_19_ShellHeap_Tape_at_I_ (fun _ h9 => h9) rfl dX10_passSign_89 ?_
      refine lv_iconst (v := 1) hx hb dX10_passSign_92 (by decide) ?_
      refine lv_iadd hx hb dX10_passSign_93 ?_
      refine lv_topi (fun z_22 ez_22 => ?_)
      have kz_22 : (z_22).toInt = (z_5).toInt + (1 : Int) := by rw [ez_22]; exact z_add (a := (z_5).toInt) (b := (1 : Int)) rfl rfl (by omega) (by omega)
      refine va_put (D := (dC, dI)) (ci := 10) (v := .int z_22) (ty := .int) (C := RX10) (T := TX10) (N := 11) hx hb hts hiX10 tyX10 tyX10_ok nmX10 hown hK hP hD hS 0 rfl rfl 2 (by decide) w__fieldLink_RX10_19_ShellHeap_Tape_at_I_ (fun _ h9 => h9) rfl (by decide +kernel) rfl rfl (Nat.le_of_ble_eq_true rfl) dX10_passSign_94 (fun H_23 locs hP hD hS => ?_)
      have hP : va_P (dC, dI) vwCl [(h0, .inr (10, [.ref h1, .int tt, .int z_22, h0_3, h0_4, h0_5, h0_6, h0_7, .int z_20, h0_9, h0_10])), (h1, .inl (ch1, 700, .inl fh1))] H_23 := hP
      have hD : va_D A [(h0, .inr (10, [.ref h1, .int tt, .int z_22, h0_3, h0_4, h0_5, h0_6, h0_7, .int z_20, h0_9, h0_10])), (h1, .inl (ch1, 700, .inl fh1))] := hD
      have hP9 := hP.sub (ws' := [(h0, .inr (10, [.ref h1, .int tt, .int z_22, h0_3, h0_4, h0_5, h0_6, h0_7, .int z_20, h0_9, h0_10])), (h1, .inl (ch1, 700, .inl fh1))]) [0, 1] rfl
      have hD9 := hD.sub (ws' := [(h0, .inr (10, [.ref h1, .int tt, .int z_22, h0_3, h0_4, h0_5, h0_6, h0_7, .int z_20, h0_9, h0_10])), (h1, .inl (ch1, 700, .inl fh1))]) [0, 1] (by decide) rfl
      have hK9 := hK.sub (tys' := []) [] rfl
      refine W.widen (k := 0) (n := 0) (Nat.le_of_ble_eq_true rfl) (Nat.le_of_ble_eq_true rfl) ?_
      exact W.vret hx hb hr (fun t ht hW => ⟨⟨(), rfl, trivial, ⟨z_22, z_20, (by first | omega | decide), (show z_22.toInt ≤ tt.toInt by omega), by rw [ht]; exact hP9, va_K.moved hW.alike hK9, hD9⟩⟩, hS.F ht⟩) hS.2.2 dX10_passSign_97
    · have k_24 : (r_11).toInt ≠ (61 : Int) := z_ne c_13
      refine lv_aload_n hx hb dX10_passSign_53 rfl (lv_at hl 0 rfl) ?_
      refine lv_aload_n hx hb dX10_passSign_54 rfl (lv_at hl 0 rfl) ?_
      refine va_get (D := (dC, dI)) (ci := 10) (v := .int z_5) (C := RX10) (T := TX10) (N := 11) hx hb hts hiX10 hown hK hP 0 rfl rfl 2 (by decide) w__fieldLink_RX10_19_ShellHeap_Tape_at_I_ (fun _ h9 => h9) rfl dX10_passSign_55 ?_
      have hPc := hP.sub (ws' := [(h0, .inr (10, [.ref h1, .int tt, .int z_5, h0_3, h0_4, h0_5, h0_6, h0_7, .int 60, h0_9, h0_10])), (h1, .inl (ch1, 700, .inl fh1))]) [0, 1] rfl
      have hDc := hD.sub (ws' := [(h0, .inr (10, [.ref h1, .int tt, .int z_5, h0_3, h0_4, h0_5, h0_6, h0_7, .int 60, h0_9, h0_10])), (h1, .inl (ch1, 700, .inl fh1))]) [0, 1] (by decide) rfl
      have hKc := hK.sub (tys' := [(ch1, .int)]) [0] rfl
      have hFc := va_free (ws := []) (wc := []) (z_D0 _) hS hA [] rfl
      refine va_calli (va_runV (As := [.int z_5]) (rest := []) ⟨hx, hb, hml, hown, hts⟩ (s_X10_byteAt l dC dI H_10.size h0 z_5 h1 tt (.int z_5) h0_3 h0_4 h0_5 h0_6 h0_7 (.int 60) h0_9 h0_10 ch1 fh1 (by first | omega | decide) hI_h1) (cwV 1 hts gw_s_X10_passSign2_s_X10_byteAt_50 rfl rfl rfl (by decide +kernel) ⟨Nat.le_of_ble_eq_true rfl, Nat.le_of_ble_eq_true rfl⟩) ⟨z_blind, va_recv hKc hPc (ci := 10) (q0 := 0) rfl rfl, z_pre hPc hKc hDc⟩ rfl rfl hl.1 rfl (lv_room (Nat.le_of_ble_eq_true rfl)) dX10_passSign_58 ⟨Nat.le_of_ble_eq_true rfl, Nat.le_of_ble_eq_true rfl⟩) hS (fun q _ h => hFc q h) hFc (fun r_26 u t H_25 locs ht hvm hw_27 hB hz1 hk1 hS => ?_)
      have hP := z_pure hP hk1
      have hP : va_P (dC, dI) vwCl [(h0, .inr (10, [.ref h1, .int tt, .int z_5, h0_3, h0_4, h0_5, h0_6, h0_7, .int 60, h0_9, h0_10])), (h1, .inl (ch1, 700, .inl fh1))] H_25 := hP
      have hD : va_D A [(h0, .inr (10, [.ref h1, .int tt, .int z_5, h0_3, h0_4, h0_5, h0_6, h0_7, .int 60, h0_9, h0_10])), (h1, .inl (ch1, 700, .inl fh1))] := hD
      clear hPc hDc hKc
      refine lv_bipush (v := 62) hx hb dX10_passSign_61 (by decide) ?_
      refine lv_icmp_ne (tgt := 97) hx hb dX10_passSign_63 (by decide) (fun c_28 => ?_) (fun c_28 => ?_)
      · have k_29 : (r_26).toInt ≠ (62 : Int) := z_ne c_28
        have hP9 := hP.sub (ws' := [(h0, .inr (10, [.ref h1, .int tt, .int z_5, h0_3, h0_4, h0_5, h0_6, h0_7, .int 60, h0_9, h0_10])), (h1, .inl (ch1, 700, .inl fh1))]) [0, 1] rfl
        have hD9 := hD.sub (ws' := [(h0, .inr (10, [.ref h1, .int tt, .int z_5, h0_3, h0_4, h0_5, h0_6, h0_7, .int 60, h0_9, h0_10])), (h1, .inl (ch1, 700, .inl fh1))]) [0, 1] (by decide) rfl
        have hK9 := hK.sub (tys' := []) [] rfl
        refine W.widen (k := 0) (n := 0) (Nat.le_of_ble_eq_true rfl) (Nat.le_of_ble_eq_true rfl) ?_
        exact W.vret hx hb hr (fun t ht hW => ⟨⟨(), rfl, trivial, ⟨z_5, 60, (by first | omega | decide), (show z_5.toInt ≤ tt.toInt by omega), by rw [ht]; exact hP9, va_K.moved hW.alike hK9, hD9⟩⟩, hS.F ht⟩) hS.2.2 dX10_passSign_97
      · have k_30 : (r_26).toInt = (62 : Int) := z_eq c_28
        obtain rfl : r_26 = 62 := z_eq' (show (r_26).toInt = (62 : Int) by omega)
        refine lv_aload_n hx hb dX10_passSign_66 rfl (lv_at hl 0 rfl) ?_
        refine lv_dup hx hb dX10_passSign_67 rfl ?_
        refine va_get (D := (dC, dI)) (ci := 10) (v := .int 60) (C := RX10) (T := TX10) (N := 11) hx hb hts hiX10 hown hK hP 0 rfl rfl 8 (by decide) w__fieldLink_RX10_38_ShellHeap_Tape_sign_I_ (fun _ h9 => h9) rfl dX10_passSign_68 ?_
        refine lv_sipush (v := 256) hx hb dX10_passSign_71 (by decide) ?_
        refine lv_aload_n hx hb dX10_passSign_74 rfl (lv_at hl 0 rfl) ?_
        refine lv_aload_n hx hb dX10_passSign_75 rfl (lv_at hl 0 rfl) ?_
        refine va_get (D := (dC, dI)) (ci := 10) (v := .int z_5) (C := RX10) (T := TX10) (N := 11) hx hb hts hiX10 hown hK hP 0 rfl rfl 2 (by decide) w__fieldLink_RX10_19_ShellHeap_Tape_at_I_ (fun _ h9 => h9) rfl dX10_passSign_76 ?_
        have hPc := hP.sub (ws' := [(h0, .inr (10, [.ref h1, .int tt, .int z_5, h0_3, h0_4, h0_5, h0_6, h0_7, .int 60, h0_9, h0_10])), (h1, .inl (ch1, 700, .inl fh1))]) [0, 1] rfl
        have hDc := hD.sub (ws' := [(h0, .inr (10, [.ref h1, .int tt, .int z_5, h0_3, h0_4, h0_5, h0_6, h0_7, .int 60, h0_9, h0_10])), (h1, .inl (ch1, 700, .inl fh1))]) [0, 1] (by decide) rfl
        have hKc := hK.sub (tys' := [(ch1, .int)]) [0] rfl
        have hFc := va_free (ws := []) (wc := []) (z_D0 _) hS hA [] rfl
        refine va_calli (va_runV (As := [.int z_5]) (rest := [.int 256, .int 60, .ref h0]) ⟨hx, hb, hml, hown, hts⟩ (s_X10_byteAt l dC dI H_25.size h0 z_5 h1 tt (.int z_5) h0_3 h0_4 h0_5 h0_6 h0_7 (.int 60) h0_9 h0_10 ch1 fh1 (by first | omega | decide) hI_h1) (cwV 1 hts gw_s_X10_passSign2_s_X10_byteAt_50 rfl rfl rfl (by decide +kernel) ⟨Nat.le_of_ble_eq_true rfl, Nat.le_of_ble_eq_true rfl⟩) ⟨z_blind, va_recv hKc hPc (ci := 10) (q0 := 0) rfl rfl, z_pre hPc hKc hDc⟩ rfl rfl hl.1 rfl (lv_room (Nat.le_of_ble_eq_true rfl)) dX10_passSign_79 ⟨Nat.le_of_ble_eq_true rfl, Nat.le_of_ble_eq_true rfl⟩) hS (fun q _ h => hFc q h) hFc (fun r_33 u t H_32 locs ht hvm hw_34 hB hz1 hk1 hS => ?_)
        have hP := z_pure hP hk1
        have hP : va_P (dC, dI) vwCl [(h0, .inr (10, [.ref h1, .int tt, .int z_5, h0_3, h0_4, h0_5, h0_6, h0_7, .int 60, h0_9, h0_10])), (h1, .inl (ch1, 700, .inl fh1))] H_32 := hP
        have hD : va_D A [(h0, .inr (10, [.ref h1, .int tt, .int z_5, h0_3, h0_4, h0_5, h0_6, h0_7, .int 60, h0_9, h0_10])), (h1, .inl (ch1, 700, .inl fh1))] := hD
        clear hPc hDc hKc
        refine lv_imul hx hb dX10_passSign_82 ?_
        refine lv_topi (fun z_35 ez_35 => ?_)
        have kz_35 : (z_35).toInt = (256 : Int) * (r_33).toInt := by rw [ez_35]; exact z_mul (a := (256 : Int)) (b := (r_33).toInt) rfl rfl (by omega) (by omega)
        refine lv_iadd hx hb dX10_passSign_83 ?_
        refine lv_topi (fun z_36 ez_36 => ?_)
        have kz_36 : (z_36).toInt = (60 : Int) + (z_35).toInt := by rw [ez_36]; exact z_add (a := (60 : Int)) (b := (z_35).toInt) rfl rfl (by omega) (by omega)
        refine va_put (D := (dC, dI)) (ci := 10) (v := .int z_36) (ty := .int) (C := RX10) (T := TX10) (N := 11) hx hb hts hiX10 tyX10 tyX10_ok nmX10 hown hK hP hD hS 0 rfl rfl 8 (by decide) w__fieldLink_RX10_38_ShellHeap_Tape_sign_I_ (fun _ h9 => h9) rfl (by decide +kernel) rfl rfl (Nat.le_of_ble_eq_true rfl) dX10_passSign_84 (fun H_37 locs hP hD hS => ?_)
        have hP : va_P (dC, dI) vwCl [(h0, .inr (10, [.ref h1, .int tt, .int z_5, h0_3, h0_4, h0_5, h0_6, h0_7, .int z_36, h0_9, h0_10])), (h1, .inl (ch1, 700, .inl fh1))] H_37 := hP
        have hD : va_D A [(h0, .inr (10, [.ref h1, .int tt, .int z_5, h0_3, h0_4, h0_5, h0_6, h0_7, .int z_36, h0_9, h0_10])), (h1, .inl (ch1, 700, .inl fh1))] := hD
        refine lv_aload_n hx hb dX10_passSign_87 rfl (lv_at hl 0 rfl) ?_
        refine lv_dup hx hb dX10_passSign_88 rfl ?_
        refine va_get (D := (dC, dI)) (ci := 10) (v := .int z_5) (C := RX10) (T := TX10) (N := 11) hx hb hts hiX10 hown hK hP 0 rfl rfl 2 (by decide) w__fieldLink_RX10_19_ShellHeap_Tape_at_I_ (fun _ h9 => h9) rfl dX10_passSign_89 ?_
        refine lv_iconst (v := 1) hx hb dX10_passSign_92 (by decide) ?_
        refine lv_iadd hx hb dX10_passSign_93 ?_
        refine lv_topi (fun z_38 ez_38 => ?_)
        have kz_38 : (z_38).toInt = (z_5).toInt + (1 : Int) := by rw [ez_38]; exact z_add (a := (z_5).toInt) (b := (1 : Int)) rfl rfl (by omega) (by omega)
        refine va_put (D := (dC, dI)) (ci := 10) (v := .int z_38) (ty := .int) (C := RX10) (T := TX10) (N := 11) hx hb hts hiX10 tyX10 tyX10_ok nmX10 hown hK hP hD hS 0 rfl rfl 2 (by decide) w__fieldLink_RX10_19_ShellHeap_Tape_at_I_ (fun _ h9 => h9) rfl (by decide +kernel) rfl rfl (Nat.le_of_ble_eq_true rfl) dX10_passSign_94 (fun H_39 locs hP hD hS => ?_)
        have hP : va_P (dC, dI) vwCl [(h0, .inr (10, [.ref h1, .int tt, .int z_38, h0_3, h0_4, h0_5, h0_6, h0_7, .int z_36, h0_9, h0_10])), (h1, .inl (ch1, 700, .inl fh1))] H_39 := hP
        have hD : va_D A [(h0, .inr (10, [.ref h1, .int tt, .int z_38, h0_3, h0_4, h0_5, h0_6, h0_7, .int z_36, h0_9, h0_10])), (h1, .inl (ch1, 700, .inl fh1))] := hD
        have hP9 := hP.sub (ws' := [(h0, .inr (10, [.ref h1, .int tt, .int z_38, h0_3, h0_4, h0_5, h0_6, h0_7, .int z_36, h0_9, h0_10])), (h1, .inl (ch1, 700, .inl fh1))]) [0, 1] rfl
        have hD9 := hD.sub (ws' := [(h0, .inr (10, [.ref h1, .int tt, .int z_38, h0_3, h0_4, h0_5, h0_6, h0_7, .int z_36, h0_9, h0_10])), (h1, .inl (ch1, 700, .inl fh1))]) [0, 1] (by decide) rfl
        have hK9 := hK.sub (tys' := []) [] rfl
        refine W.widen (k := 0) (n := 0) (Nat.le_of_ble_eq_true rfl) (Nat.le_of_ble_eq_true rfl) ?_
        exact W.vret hx hb hr (fun t ht hW => ⟨⟨(), rfl, trivial, ⟨z_38, z_36, (by first | omega | decide), (show z_38.toInt ≤ tt.toInt by omega), by rw [ht]; exact hP9, va_K.moved hW.alike hK9, hD9⟩⟩, hS.F ht⟩) hS.2.2 dX10_passSign_97
  · have k_40 : (r_2).toInt ≠ (60 : Int) := z_ne c_7
    refine lv_aload_n hx hb dX10_passSign_31 rfl (lv_at hl 0 rfl) ?_
    refine va_get (D := (dC, dI)) (ci := 10) (v := .int r_2) (C := RX10) (T := TX10) (N := 11) hx hb hts hiX10 hown hK hP 0 rfl rfl 8 (by decide) w__fieldLink_RX10_38_ShellHeap_Tape_sign_I_ (fun _ h9 => h9) rfl dX10_passSign_32 ?_
    refine lv_bipush (v := 62) hx hb dX10_passSign_35 (by decide) ?_
    refine lv_icmp_ne (tgt := 97) hx hb dX10_passSign_37 (by decide) (fun c_41 => ?_) (fun c_41 => ?_)
    · have k_42 : (r_2).toInt ≠ (62 : Int) := z_ne c_41
      have hP9 := hP.sub (ws' := [(h0, .inr (10, [.ref h1, .int tt, .int z_5, h0_3, h0_4, h0_5, h0_6, h0_7, .int r_2, h0_9, h0_10])), (h1, .inl (ch1, 700, .inl fh1))]) [0, 1] rfl
      have hD9 := hD.sub (ws' := [(h0, .inr (10, [.ref h1, .int tt, .int z_5, h0_3, h0_4, h0_5, h0_6, h0_7, .int r_2, h0_9, h0_10])), (h1, .inl (ch1, 700, .inl fh1))]) [0, 1] (by decide) rfl
      have hK9 := hK.sub (tys' := []) [] rfl
      refine W.widen (k := 0) (n := 0) (Nat.le_of_ble_eq_true rfl) (Nat.le_of_ble_eq_true rfl) ?_
      exact W.vret hx hb hr (fun t ht hW => ⟨⟨(), rfl, trivial, ⟨z_5, r_2, (by first | omega | decide), (show z_5.toInt ≤ tt.toInt by omega), by rw [ht]; exact hP9, va_K.moved hW.alike hK9, hD9⟩⟩, hS.F ht⟩) hS.2.2 dX10_passSign_97
    · have k_43 : (r_2).toInt = (62 : Int) := z_eq c_41
      obtain rfl : r_2 = 62 := z_eq' (show (r_2).toInt = (62 : Int) by omega)
      refine lv_aload_n hx hb dX10_passSign_40 rfl (lv_at hl 0 rfl) ?_
      refine lv_aload_n hx hb dX10_passSign_41 rfl (lv_at hl 0 rfl) ?_
      refine va_get (D := (dC, dI)) (ci := 10) (v := .int z_5) (C := RX10) (T := TX10) (N := 11) hx hb hts hiX10 hown hK hP 0 rfl rfl 2 (by decide) w__fieldLink_RX10_19_ShellHeap_Tape_at_I_ (fun _ h9 => h9) rfl dX10_passSign_42 ?_
      have hPc := hP.sub (ws' := [(h0, .inr (10, [.ref h1, .int tt, .int z_5, h0_3, h0_4, h0_5, h0_6, h0_7, .int 62, h0_9, h0_10])), (h1, .inl (ch1, 700, .inl fh1))]) [0, 1] rfl
      have hDc := hD.sub (ws' := [(h0, .inr (10, [.ref h1, .int tt, .int z_5, h0_3, h0_4, h0_5, h0_6, h0_7, .int 62, h0_9, h0_10])), (h1, .inl (ch1, 700, .inl fh1))]) [0, 1] (by decide) rfl
      have hKc := hK.sub (tys' := [(ch1, .int)]) [0] rfl
      have hFc := va_free (ws := []) (wc := []) (z_D0 _) hS hA [] rfl
      refine va_calli (va_runV (As := [.int z_5]) (rest := []) ⟨hx, hb, hml, hown, hts⟩ (s_X10_byteAt l dC dI H_6.size h0 z_5 h1 tt (.int z_5) h0_3 h0_4 h0_5 h0_6 h0_7 (.int 62) h0_9 h0_10 ch1 fh1 (by first | omega | decide) hI_h1) (cwV 1 hts gw_s_X10_passSign2_s_X10_byteAt_50 rfl rfl rfl (by decide +kernel) ⟨Nat.le_of_ble_eq_true rfl, Nat.le_of_ble_eq_true rfl⟩) ⟨z_blind, va_recv hKc hPc (ci := 10) (q0 := 0) rfl rfl, z_pre hPc hKc hDc⟩ rfl rfl hl.1 rfl (lv_room (Nat.le_of_ble_eq_true rfl)) dX10_passSign_45 ⟨Nat.le_of_ble_eq_true rfl, Nat.le_of_ble_eq_true rfl⟩) hS (fun q _ h => hFc q h) hFc (fun r_46 u t H_45 locs ht hvm hw_47 hB hz1 hk1 hS => ?_)
      have hP := z_pure hP hk1
      have hP : va_P (dC, dI) vwCl [(h0, .inr (10, [.ref h1, .int tt, .int z_5, h0_3, h0_4, h0_5, h0_6, h0_7, .int 62, h0_9, h0_10])), (h1, .inl (ch1, 700, .inl fh1))] H_45 := hP
      have hD : va_D A [(h0, .inr (10, [.ref h1, .int tt, .int z_5, h0_3, h0_4, h0_5, h0_6, h0_7, .int 62, h0_9, h0_10])), (h1, .inl (ch1, 700, .inl fh1))] := hD
      clear hPc hDc hKc
      refine lv_bipush (v := 61) hx hb dX10_passSign_48 (by decide) ?_
      refine lv_icmp_eq (tgt := 66) hx hb dX10_passSign_50 (by decide) (fun c_48 => ?_) (fun c_48 => ?_)
      · have k_49 : (r_46).toInt = (61 : Int) := z_eq c_48
        obtain rfl : r_46 = 61 := z_eq' (show (r_46).toInt = (61 : Int) by omega)
        refine lv_aload_n hx hb dX10_passSign_66 rfl (lv_at hl 0 rfl) ?_
        refine lv_dup hx hb dX10_passSign_67 rfl ?_
        refine va_get (D := (dC, dI)) (ci := 10) (v := .int 62) (C := RX10) (T := TX10) (N := 11) hx hb hts hiX10 hown hK hP 0 rfl rfl 8 (by decide) w__fieldLink_RX10_38_ShellHeap_Tape_sign_I_ (fun _ h9 => h9) rfl dX10_passSign_68 ?_
        refine lv_sipush (v := 256) hx hb dX10_passSign_71 (by decide) ?_
        refine lv_aload_n hx hb dX10_passSign_74 rfl (lv_at hl 0 rfl) ?_
        refine lv_aload_n hx hb dX10_passSign_75 rfl (lv_at hl 0 rfl) ?_
        refine va_get (D := (dC, dI)) (ci := 10) (v := .int z_5) (C := RX10) (T := TX10) (N := 11) hx hb hts hiX10 hown hK hP 0 rfl rfl 2 (by decide) w__fieldLink_RX10_19_ShellHeap_Tape_at_I_ (fun _ h9 => h9) rfl dX10_passSign_76 ?_
        have hPc := hP.sub (ws' := [(h0, .inr (10, [.ref h1, .int tt, .int z_5, h0_3, h0_4, h0_5, h0_6, h0_7, .int 62, h0_9, h0_10])), (h1, .inl (ch1, 700, .inl fh1))]) [0, 1] rfl
        have hDc := hD.sub (ws' := [(h0, .inr (10, [.ref h1, .int tt, .int z_5, h0_3, h0_4, h0_5, h0_6, h0_7, .int 62, h0_9, h0_10])), (h1, .inl (ch1, 700, .inl fh1))]) [0, 1] (by decide) rfl
        have hKc := hK.sub (tys' := [(ch1, .int)]) [0] rfl
        have hFc := va_free (ws := []) (wc := []) (z_D0 _) hS hA [] rfl
        refine va_calli (va_runV (As := [.int z_5]) (rest := [.int 256, .int 62, .ref h0]) ⟨hx, hb, hml, hown, hts⟩ (s_X10_byteAt l dC dI H_45.size h0 z_5 h1 tt (.int z_5) h0_3 h0_4 h0_5 h0_6 h0_7 (.int 62) h0_9 h0_10 ch1 fh1 (by first | omega | decide) hI_h1) (cwV 1 hts gw_s_X10_passSign2_s_X10_byteAt_50 rfl rfl rfl (by decide +kernel) ⟨Nat.le_of_ble_eq_true rfl, Nat.le_of_ble_eq_true rfl⟩) ⟨z_blind, va_recv hKc hPc (ci := 10) (q0 := 0) rfl rfl, z_pre hPc hKc hDc⟩ rfl rfl hl.1 rfl (lv_room (Nat.le_of_ble_eq_true rfl)) dX10_passSign_79 ⟨Nat.le_of_ble_eq_true rfl, Nat.le_of_ble_eq_true rfl⟩) hS (fun q _ h => hFc q h) hFc (fun r_52 u t H_51 locs ht hvm hw_53 hB hz1 hk1 hS => ?_)
        have hP := z_pure hP hk1
        have hP : va_P (dC, dI) vwCl [(h0, .inr (10, [.ref h1, .int tt, .int z_5, h0_3, h0_4, h0_5, h0_6, h0_7, .int 62, h0_9, h0_10])), (h1, .inl (ch1, 700, .inl fh1))] H_51 := hP
        have hD : va_D A [(h0, .inr (10, [.ref h1, .int tt, .int z_5, h0_3, h0_4, h0_5, h0_6, h0_7, .int 62, h0_9, h0_10])), (h1, .inl (ch1, 700, .inl fh1))] := hD
        clear hPc hDc hKc
        refine lv_imul hx hb dX10_passSign_82 ?_
        refine lv_topi (fun z_54 ez_54 => ?_)
        have kz_54 : (z_54).toInt = (256 : Int) * (r_52).toInt := by rw [ez_54]; exact z_mul (a := (256 : Int)) (b := (r_52).toInt) rfl rfl (by omega) (by omega)
        refine lv_iadd hx hb dX10_passSign_83 ?_
        refine lv_topi (fun z_55 ez_55 => ?_)
        have kz_55 : (z_55).toInt = (62 : Int) + (z_54).toInt := by rw [ez_55]; exact z_add (a := (62 : Int)) (b := (z_54).toInt) rfl rfl (by omega) (by omega)
        refine va_put (D := (dC, dI)) (ci := 10) (v := .int z_55) (ty := .int) (C := RX10) (T := TX10) (N := 11) hx hb hts hiX10 tyX10 tyX10_ok nmX10 hown hK hP hD hS 0 rfl rfl 8 (by decide) w__fieldLink_RX10_38_ShellHeap_Tape_sign_I_ (fun _ h9 => h9) rfl (by decide +kernel) rfl rfl (Nat.le_of_ble_eq_true rfl) dX10_passSign_84 (fun H_56 locs hP hD hS => ?_)
        have hP : va_P (dC, dI) vwCl [(h0, .inr (10, [.ref h1, .int tt, .int z_5, h0_3, h0_4, h0_5, h0_6, h0_7, .int z_55, h0_9, h0_10])), (h1, .inl (ch1, 700, .inl fh1))] H_56 := hP
        have hD : va_D A [(h0, .inr (10, [.ref h1, .int tt, .int z_5, h0_3, h0_4, h0_5, h0_6, h0_7, .int z_55, h0_9, h0_10])), (h1, .inl (ch1, 700, .inl fh1))] := hD
        refine lv_aload_n hx hb dX10_passSign_87 rfl (lv_at hl 0 rfl) ?_
        refine lv_dup hx hb dX10_passSign_88 rfl ?_
        refine va_get (D := (dC, dI)) (ci := 10) (v := .int z_5) (C := RX10) (T := TX10) (N := 11) hx hb hts hiX10 hown hK hP 0 rfl rfl 2 (by decide) w__fieldLink_RX10_19_ShellHeap_Tape_at_I_ (fun _ h9 => h9) rfl dX10_passSign_89 ?_
        refine lv_iconst (v := 1) hx hb dX10_passSign_92 (by decide) ?_
        refine lv_iadd hx hb dX10_passSign_93 ?_
        refine lv_topi (fun z_57 ez_57 => ?_)
        have kz_57 : (z_57).toInt = (z_5).toInt + (1 : Int) := by rw [ez_57]; exact z_add (a := (z_5).toInt) (b := (1 : Int)) rfl rfl (by omega) (by omega)
        refine va_put (D := (dC, dI)) (ci := 10) (v := .int z_57) (ty := .int) (C := RX10) (T := TX10) (N := 11) hx hb hts hiX10 tyX10 tyX10_ok nmX10 hown hK hP hD hS 0 rfl rfl 2 (by decide) w__fieldLink_RX10_19_ShellHeap_Tape_at_I_ (fun _ h9 => h9) rfl (by decide +kernel) rfl rfl (Nat.le_of_ble_eq_true rfl) dX10_passSign_94 (fun H_58 locs hP hD hS => ?_)
        have hP : va_P (dC, dI) vwCl [(h0, .inr (10, [.ref h1, .int tt, .int z_57, h0_3, h0_4, h0_5, h0_6, h0_7, .int z_55, h0_9, h0_10])), (h1, .inl (ch1, 700, .inl fh1))] H_58 := hP
        have hD : va_D A [(h0, .inr (10, [.ref h1, .int tt, .int z_57, h0_3, h0_4, h0_5, h0_6, h0_7, .int z_55, h0_9, h0_10])), (h1, .inl (ch1, 700, .inl fh1))] := hD
        have hP9 := hP.sub (ws' := [(h0, .inr (10, [.ref h1, .int tt, .int z_57, h0_3, h0_4, h0_5, h0_6, h0_7, .int z_55, h0_9, h0_10])), (h1, .inl (ch1, 700, .inl fh1))]) [0, 1] rfl
        have hD9 := hD.sub (ws' := [(h0, .inr (10, [.ref h1, .int tt, .int z_57, h0_3, h0_4, h0_5, h0_6, h0_7, .int z_55, h0_9, h0_10])), (h1, .inl (ch1, 700, .inl fh1))]) [0, 1] (by decide) rfl
        have hK9 := hK.sub (tys' := []) [] rfl
        refine W.widen (k := 0) (n := 0) (Nat.le_of_ble_eq_true rfl) (Nat.le_of_ble_eq_true rfl) ?_
        exact W.vret hx hb hr (fun t ht hW => ⟨⟨(), rfl, trivial, ⟨z_57, z_55, (by first | omega | decide), (show z_57.toInt ≤ tt.toInt by omega), by rw [ht]; exact hP9, va_K.moved hW.alike hK9, hD9⟩⟩, hS.F ht⟩) hS.2.2 dX10_passSign_97
      · have k_59 : (r_46).toInt ≠ (61 : Int) := z_ne c_48
        refine lv_aload_n hx hb dX10_passSign_53 rfl (lv_at hl 0 rfl) ?_
        refine lv_aload_n hx hb dX10_passSign_54 rfl (lv_at hl 0 rfl) ?_
        refine va_get (D := (dC, dI)) (ci := 10) (v := .int z_5) (C := RX10) (T := TX10) (N := 11) hx hb hts hiX10 hown hK hP 0 rfl rfl 2 (by decide) w__fieldLink_RX10_19_ShellHeap_Tape_at_I_ (fun _ h9 => h9) rfl dX10_passSign_55 ?_
        have hPc := hP.sub (ws' := [(h0, .inr (10, [.ref h1, .int tt, .int z_5, h0_3, h0_4, h0_5, h0_6, h0_7, .int 62, h0_9, h0_10])), (h1, .inl (ch1, 700, .inl fh1))]) [0, 1] rfl
        have hDc := hD.sub (ws' := [(h0, .inr (10, [.ref h1, .int tt, .int z_5, h0_3, h0_4, h0_5, h0_6, h0_7, .int 62, h0_9, h0_10])), (h1, .inl (ch1, 700, .inl fh1))]) [0, 1] (by decide) rfl
        have hKc := hK.sub (tys' := [(ch1, .int)]) [0] rfl
        have hFc := va_free (ws := []) (wc := []) (z_D0 _) hS hA [] rfl
        refine va_calli (va_runV (As := [.int z_5]) (rest := []) ⟨hx, hb, hml, hown, hts⟩ (s_X10_byteAt l dC dI H_45.size h0 z_5 h1 tt (.int z_5) h0_3 h0_4 h0_5 h0_6 h0_7 (.int 62) h0_9 h0_10 ch1 fh1 (by first | omega | decide) hI_h1) (cwV 1 hts gw_s_X10_passSign2_s_X10_byteAt_50 rfl rfl rfl (by decide +kernel) ⟨Nat.le_of_ble_eq_true rfl, Nat.le_of_ble_eq_true rfl⟩) ⟨z_blind, va_recv hKc hPc (ci := 10) (q0 := 0) rfl rfl, z_pre hPc hKc hDc⟩ rfl rfl hl.1 rfl (lv_room (Nat.le_of_ble_eq_true rfl)) dX10_passSign_58 ⟨Nat.le_of_ble_eq_true rfl, Nat.le_of_ble_eq_true rfl⟩) hS (fun q _ h => hFc q h) hFc (fun r_61 u t H_60 locs ht hvm hw_62 hB hz1 hk1 hS => ?_)
        have hP := z_pure hP hk1
        have hP : va_P (dC, dI) vwCl [(h0, .inr (10, [.ref h1, .int tt, .int z_5, h0_3, h0_4, h0_5, h0_6, h0_7, .int 62, h0_9, h0_10])), (h1, .inl (ch1, 700, .inl fh1))] H_60 := hP
        have hD : va_D A [(h0, .inr (10, [.ref h1, .int tt, .int z_5, h0_3, h0_4, h0_5, h0_6, h0_7, .int 62, h0_9, h0_10])), (h1, .inl (ch1, 700, .inl fh1))] := hD
        clear hPc hDc hKc
        refine lv_bipush (v := 62) hx hb dX10_passSign_61 (by decide) ?_
        refine lv_icmp_ne (tgt := 97) hx hb dX10_passSign_63 (by decide) (fun c_63 => ?_) (fun c_63 => ?_)
        · have k_64 : (r_61).toInt ≠ (62 : Int) := z_ne c_63
          have hP9 := hP.sub (ws' := [(h0, .inr (10, [.ref h1, .int tt, .int z_5, h0_3, h0_4, h0_5, h0_6, h0_7, .int 62, h0_9, h0_10])), (h1, .inl (ch1, 700, .inl fh1))]) [0, 1] rfl
          have hD9 := hD.sub (ws' := [(h0, .inr (10, [.ref h1, .int tt, .int z_5, h0_3, h0_4, h0_5, h0_6, h0_7, .int 62, h0_9, h0_10])), (h1, .inl (ch1, 700, .inl fh1))]) [0, 1] (by decide) rfl
          have hK9 := hK.sub (tys' := []) [] rfl
          refine W.widen (k := 0) (n := 0) (Nat.le_of_ble_eq_true rfl) (Nat.le_of_ble_eq_true rfl) ?_
          exact W.vret hx hb hr (fun t ht hW => ⟨⟨(), rfl, trivial, ⟨z_5, 62, (by first | omega | decide), (show z_5.toInt ≤ tt.toInt by omega), by rw [ht]; exact hP9, va_K.moved hW.alike hK9, hD9⟩⟩, hS.F ht⟩) hS.2.2 dX10_passSign_97
        · have k_65 : (r_61).toInt = (62 : Int) := z_eq c_63
          obtain rfl : r_61 = 62 := z_eq' (show (r_61).toInt = (62 : Int) by omega)
          refine lv_aload_n hx hb dX10_passSign_66 rfl (lv_at hl 0 rfl) ?_
          refine lv_dup hx hb dX10_passSign_67 rfl ?_
          refine va_get (D := (dC, dI)) (ci := 10) (v := .int 62) (C := RX10) (T := TX10) (N := 11) hx hb hts hiX10 hown hK hP 0 rfl rfl 8 (by decide) w__fieldLink_RX10_38_ShellHeap_Tape_sign_I_ (fun _ h9 => h9) rfl dX10_passSign_68 ?_
          refine lv_sipush (v := 256) hx hb dX10_passSign_71 (by decide) ?_
          refine lv_aload_n hx hb dX10_passSign_74 rfl (lv_at hl 0 rfl) ?_
          refine lv_aload_n hx hb dX10_passSign_75 rfl (lv_at hl 0 rfl) ?_
          refine va_get (D := (dC, dI)) (ci := 10) (v := .int z_5) (C := RX10) (T := TX10) (N := 11) hx hb hts hiX10 hown hK hP 0 rfl rfl 2 (by decide) w__fieldLink_RX10_19_ShellHeap_Tape_at_I_ (fun _ h9 => h9) rfl dX10_passSign_76 ?_
          have hPc := hP.sub (ws' := [(h0, .inr (10, [.ref h1, .int tt, .int z_5, h0_3, h0_4, h0_5, h0_6, h0_7, .int 62, h0_9, h0_10])), (h1, .inl (ch1, 700, .inl fh1))]) [0, 1] rfl
          have hDc := hD.sub (ws' := [(h0, .inr (10, [.ref h1, .int tt, .int z_5, h0_3, h0_4, h0_5, h0_6, h0_7, .int 62, h0_9, h0_10])), (h1, .inl (ch1, 700, .inl fh1))]) [0, 1] (by decide) rfl
          have hKc := hK.sub (tys' := [(ch1, .int)]) [0] rfl
          have hFc := va_free (ws := []) (wc := []) (z_D0 _) hS hA [] rfl
          refine va_calli (va_runV (As := [.int z_5]) (rest := [.int 256, .int 62, .ref h0]) ⟨hx, hb, hml, hown, hts⟩ (s_X10_byteAt l dC dI H_60.size h0 z_5 h1 tt (.int z_5) h0_3 h0_4 h0_5 h0_6 h0_7 (.int 62) h0_9 h0_10 ch1 fh1 (by first | omega | decide) hI_h1) (cwV 1 hts gw_s_X10_passSign2_s_X10_byteAt_50 rfl rfl rfl (by decide +kernel) ⟨Nat.le_of_ble_eq_true rfl, Nat.le_of_ble_eq_true rfl⟩) ⟨z_blind, va_recv hKc hPc (ci := 10) (q0 := 0) rfl rfl, z_pre hPc hKc hDc⟩ rfl rfl hl.1 rfl (lv_room (Nat.le_of_ble_eq_true rfl)) dX10_passSign_79 ⟨Nat.le_of_ble_eq_true rfl, Nat.le_of_ble_eq_true rfl⟩) hS (fun q _ h => hFc q h) hFc (fun r_68 u t H_67 locs ht hvm hw_69 hB hz1 hk1 hS => ?_)
          have hP := z_pure hP hk1
          have hP : va_P (dC, dI) vwCl [(h0, .inr (10, [.ref h1, .int tt, .int z_5, h0_3, h0_4, h0_5, h0_6, h0_7, .int 62, h0_9, h0_10])), (h1, .inl (ch1, 700, .inl fh1))] H_67 := hP
          have hD : va_D A [(h0, .inr (10, [.ref h1, .int tt, .int z_5, h0_3, h0_4, h0_5, h0_6, h0_7, .int 62, h0_9, h0_10])), (h1, .inl (ch1, 700, .inl fh1))] := hD
          clear hPc hDc hKc
          refine lv_imul hx hb dX10_passSign_82 ?_
          refine lv_topi (fun z_70 ez_70 => ?_)
          have kz_70 : (z_70).toInt = (256 : Int) * (r_68).toInt := by rw [ez_70]; exact z_mul (a := (256 : Int)) (b := (r_68).toInt) rfl rfl (by omega) (by omega)
          refine lv_iadd hx hb dX10_passSign_83 ?_
          refine lv_topi (fun z_71 ez_71 => ?_)
          have kz_71 : (z_71).toInt = (62 : Int) + (z_70).toInt := by rw [ez_71]; exact z_add (a := (62 : Int)) (b := (z_70).toInt) rfl rfl (by omega) (by omega)
          refine va_put (D := (dC, dI)) (ci := 10) (v := .int z_71) (ty := .int) (C := RX10) (T := TX10) (N := 11) hx hb hts hiX10 tyX10 tyX10_ok nmX10 hown hK hP hD hS 0 rfl rfl 8 (by decide) w__fieldLink_RX10_38_ShellHeap_Tape_sign_I_ (fun _ h9 => h9) rfl (by decide +kernel) rfl rfl (Nat.le_of_ble_eq_true rfl) dX10_passSign_84 (fun H_72 locs hP hD hS => ?_)
          have hP : va_P (dC, dI) vwCl [(h0, .inr (10, [.ref h1, .int tt, .int z_5, h0_3, h0_4, h0_5, h0_6, h0_7, .int z_71, h0_9, h0_10])), (h1, .inl (ch1, 700, .inl fh1))] H_72 := hP
          have hD : va_D A [(h0, .inr (10, [.ref h1, .int tt, .int z_5, h0_3, h0_4, h0_5, h0_6, h0_7, .int z_71, h0_9, h0_10])), (h1, .inl (ch1, 700, .inl fh1))] := hD
          refine lv_aload_n hx hb dX10_passSign_87 rfl (lv_at hl 0 rfl) ?_
          refine lv_dup hx hb dX10_passSign_88 rfl ?_
          refine va_get (D := (dC, dI)) (ci := 10) (v := .int z_5) (C := RX10) (T := TX10) (N := 11) hx hb hts hiX10 hown hK hP 0 rfl rfl 2 (by decide) w__fieldLink_RX10_19_ShellHeap_Tape_at_I_ (fun _ h9 => h9) rfl dX10_passSign_89 ?_
          refine lv_iconst (v := 1) hx hb dX10_passSign_92 (by decide) ?_
          refine lv_iadd hx hb dX10_passSign_93 ?_
          refine lv_topi (fun z_73 ez_73 => ?_)
          have kz_73 : (z_73).toInt = (z_5).toInt + (1 : Int) := by rw [ez_73]; exact z_add (a := (z_5).toInt) (b := (1 : Int)) rfl rfl (by omega) (by omega)
          refine va_put (D := (dC, dI)) (ci := 10) (v := .int z_73) (ty := .int) (C := RX10) (T := TX10) (N := 11) hx hb hts hiX10 tyX10 tyX10_ok nmX10 hown hK hP hD hS 0 rfl rfl 2 (by decide) w__fieldLink_RX10_19_ShellHeap_Tape_at_I_ (fun _ h9 => h9) rfl (by decide +kernel) rfl rfl (Nat.le_of_ble_eq_true rfl) dX10_passSign_94 (fun H_74 locs hP hD hS => ?_)
          have hP : va_P (dC, dI) vwCl [(h0, .inr (10, [.ref h1, .int tt, .int z_73, h0_3, h0_4, h0_5, h0_6, h0_7, .int z_71, h0_9, h0_10])), (h1, .inl (ch1, 700, .inl fh1))] H_74 := hP
          have hD : va_D A [(h0, .inr (10, [.ref h1, .int tt, .int z_73, h0_3, h0_4, h0_5, h0_6, h0_7, .int z_71, h0_9, h0_10])), (h1, .inl (ch1, 700, .inl fh1))] := hD
          have hP9 := hP.sub (ws' := [(h0, .inr (10, [.ref h1, .int tt, .int z_73, h0_3, h0_4, h0_5, h0_6, h0_7, .int z_71, h0_9, h0_10])), (h1, .inl (ch1, 700, .inl fh1))]) [0, 1] rfl
          have hD9 := hD.sub (ws' := [(h0, .inr (10, [.ref h1, .int tt, .int z_73, h0_3, h0_4, h0_5, h0_6, h0_7, .int z_71, h0_9, h0_10])), (h1, .inl (ch1, 700, .inl fh1))]) [0, 1] (by decide) rfl
          have hK9 := hK.sub (tys' := []) [] rfl
          refine W.widen (k := 0) (n := 0) (Nat.le_of_ble_eq_true rfl) (Nat.le_of_ble_eq_true rfl) ?_
          exact W.vret hx hb hr (fun t ht hW => ⟨⟨(), rfl, trivial, ⟨z_73, z_71, (by first | omega | decide), (show z_73.toInt ≤ tt.toInt by omega), by rw [ht]; exact hP9, va_K.moved hW.alike hK9, hD9⟩⟩, hS.F ht⟩) hS.2.2 dX10_passSign_97
