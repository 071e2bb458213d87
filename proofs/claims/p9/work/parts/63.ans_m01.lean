def u_s_X10_next3 : List Cond := .code yX10_next cX10_next 1 none :: ([.fieldLink RX10 19 "ShellHeap$Tape" "at" "I", .fieldLink RX10 15 "ShellHeap$Tape" "text" "I", .fieldLink RX10 29 "ShellHeap$Tape" "start" "I", .fieldLink RX10 38 "ShellHeap$Tape" "sign" "I", .methodLink RX10 50 yX10_byteAt, .instanceMethod yX10_byteAt, .selects RX10 yX10_byteAt yX10_byteAt, .initialized RX10, .methodLink RX10 54 yX10_isLetter, .static yX10_isLetter, .fieldLink RX10 35 "ShellHeap$Tape" "sort" "I", .methodLink RX10 58 yX10_passLetters, .instanceMethod yX10_passLetters, .selects RX10 yX10_passLetters yX10_passLetters, .fieldLink RX10 22 "ShellHeap$Tape" "digitsJoin" "Z", .methodLink RX10 61 yX10_passDigits, .instanceMethod yX10_passDigits, .selects RX10 yX10_passDigits yX10_passDigits, .fieldLink RX10 32 "ShellHeap$Tape" "end" "I", .methodLink RX10 64 yX10_isDigit, .static yX10_isDigit, .methodLink RX10 67 yX10_passSign, .instanceMethod yX10_passSign, .selects RX10 yX10_passSign yX10_passSign] ++ (wsX100 ++ (u_s_X10_byteAt4 ++ (u_s_X10_isLetter3 ++ (u_s_X10_passLetters3 ++ (u_s_X10_passDigits3 ++ (u_s_X10_isDigit3 ++ (u_s_X10_passSign3 ++ []))))))))
theorem gd_s_X10_next3 : z_gd u_s_X10_next3 := z_gdc (by decide +kernel) (z_gda gdX10 (z_gda gd_s_X10_byteAt4 (z_gda gd_s_X10_isLetter3 (z_gda gd_s_X10_passLetters3 (z_gda gd_s_X10_passDigits3 (z_gda gd_s_X10_isDigit3 (z_gda gd_s_X10_passSign3 (z_gd0))))))))
set_option maxRecDepth 20000 in
theorem gw_s_X10_next3_s_X10_byteAt4_50 : GoodIn u_s_X10_next3 (wsV RX10 50 RX10 yX10_byteAt u_s_X10_byteAt4) := z_gV (z_gr _ [5, 6, 7, 8] rfl (by decide +kernel)) (fun w h => ⟨z_mc (z_mr (z_mr (z_ml h))), gd_s_X10_byteAt4 w h⟩)
set_option maxRecDepth 20000 in
theorem gw_s_X10_next3_s_X10_isLetter3_54 : GoodIn u_s_X10_next3 (va_wsS RX10 54 yX10_isLetter u_s_X10_isLetter3) := z_gS (z_gr _ [9, 10, 8] rfl (by decide +kernel)) (fun w h => ⟨z_mc (z_mr (z_mr (z_mr (z_ml h)))), gd_s_X10_isLetter3 w h⟩)
set_option maxRecDepth 20000 in
theorem gw_s_X10_next3_s_X10_passLetters3_58 : GoodIn u_s_X10_next3 (wsV RX10 58 RX10 yX10_passLetters u_s_X10_passLetters3) := z_gV (z_gr _ [12, 13, 14, 8] rfl (by decide +kernel)) (fun w h => ⟨z_mc (z_mr (z_mr (z_mr (z_mr (z_ml h))))), gd_s_X10_passLetters3 w h⟩)
set_option maxRecDepth 20000 in
theorem gw_s_X10_next3_s_X10_passDigits3_61 : GoodIn u_s_X10_next3 (wsV RX10 61 RX10 yX10_passDigits u_s_X10_passDigits3) := z_gV (z_gr _ [16, 17, 18, 8] rfl (by decide +kernel)) (fun w h => ⟨z_mc (z_mr (z_mr (z_mr (z_mr (z_mr (z_ml h)))))), gd_s_X10_passDigits3 w h⟩)
set_option maxRecDepth 20000 in
theorem gw_s_X10_next3_s_X10_isDigit3_64 : GoodIn u_s_X10_next3 (va_wsS RX10 64 yX10_isDigit u_s_X10_isDigit3) := z_gS (z_gr _ [20, 21, 8] rfl (by decide +kernel)) (fun w h => ⟨z_mc (z_mr (z_mr (z_mr (z_mr (z_mr (z_mr (z_ml h))))))), gd_s_X10_isDigit3 w h⟩)
set_option maxRecDepth 20000 in
theorem gw_s_X10_next3_s_X10_passSign3_67 : GoodIn u_s_X10_next3 (wsV RX10 67 RX10 yX10_passSign u_s_X10_passSign3) := z_gV (z_gr _ [22, 23, 24, 8] rfl (by decide +kernel)) (fun w h => ⟨z_mc (z_mr (z_mr (z_mr (z_mr (z_mr (z_mr (z_mr (z_ml h)))))))), gd_s_X10_passSign3 w h⟩)
set_option maxHeartbeats 4000000 in
set_option maxRecDepth 100000 in
theorem s_X10_next3 (l : Launch) (dC : Nat → ClassId) (dI : Nat → Nat → Nat) (sz : Nat) (h0 : Nat) (h1 : Nat) (tt : Int32) (ta : Int32) (tf : Int32) (ts : Int32) (te : Int32) (to : Int32) (tg : Int32) (tx : Int32) (ty : Int32) (ch1 : ClassId) (fh1 : Nat → Int32) (hB_tt : ((0 : Int) ≤ (tt).toInt ∧ (tt).toInt ≤ (700 : Int))) (hB_ta : ((0 : Int) ≤ (ta).toInt ∧ (ta).toInt ≤ (700 : Int))) (hB_tf : ((0 : Int) ≤ (tf).toInt ∧ (tf).toInt ≤ (700 : Int))) (hB_ts : ((0 : Int) ≤ (ts).toInt ∧ (ts).toInt ≤ (700 : Int))) (hB_te : ((0 : Int) ≤ (te).toInt ∧ (te).toInt ≤ (700 : Int))) (hI_h1 : ∀ j : Nat, ((0 : Int) ≤ (fh1 j).toInt ∧ (fh1 j).toInt ≤ (255 : Int))) (hle : ta.toInt ≤ tt.toInt) : Met l yX10_next u_s_X10_next3 ({ frames := 2, cells := 0, slots := 0, locals := 41 }) (va_Pc [.ref h0] (z_C (dC, dI) vwCl [(h0, .inr (10, [.ref h1, .int tt, .int ta, .int 1, .int tf, .int ts, .int te, .int to, .int tg, .int tx, .int ty])), (h1, .inl (ch1, 700, .inl fh1))] [(ch1, .int)] sz)) (va_Qv (fun (_ : Unit) => True) (fun (_ : Unit) (t : State) => ∃ (n_h0_at : Int32), ∃ (n_h0_start : Int32), ∃ (n_h0_end : Int32), ∃ (n_h0_sort : Int32), ∃ (n_h0_sign : Int32), ((0 : Int) ≤ (n_h0_at).toInt ∧ (n_h0_at).toInt ≤ (700 : Int)) ∧ ((0 : Int) ≤ (n_h0_start).toInt ∧ (n_h0_start).toInt ≤ (700 : Int)) ∧ ((0 : Int) ≤ (n_h0_end).toInt ∧ (n_h0_end).toInt ≤ (700 : Int)) ∧ (f_run f_bl fh1 tt.toInt ta.toInt n_h0_start.toInt) ∧ (f_C fh1 tt.toInt n_h0_sort.toInt n_h0_sign.toInt n_h0_start.toInt n_h0_end.toInt) ∧ (n_h0_at.toInt = n_h0_end.toInt ∧ n_h0_end.toInt ≤ tt.toInt ∧ n_h0_start.toInt ≤ n_h0_end.toInt) ∧ (f_pg n_h0_sort.toInt n_h0_start.toInt n_h0_end.toInt) ∧ va_P (dC, dI) vwCl [(h0, .inr (10, [.ref h1, .int tt, .int n_h0_at, .int 1, .int tf, .int n_h0_start, .int n_h0_end, .int n_h0_sort, .int n_h0_sign, .int tx, .int ty])), (h1, .inl (ch1, 700, .inl fh1))] t.heap ∧ va_K (dC, dI) vwCl [] t ∧ va_D (va_A [(h0, .inr (10, [.ref h1, .int tt, .int ta, .int 1, .int tf, .int ts, .int te, .int to, .int tg, .int tx, .int ty])), (h1, .inl (ch1, 700, .inl fh1))] sz) [(h0, .inr (10, [.ref h1, .int tt, .int n_h0_at, .int 1, .int tf, .int n_h0_start, .int n_h0_end, .int n_h0_sort, .int n_h0_sign, .int tx, .int ty])), (h1, .inl (ch1, 700, .inl fh1))]) (va_A [(h0, .inr (10, [.ref h1, .int tt, .int ta, .int 1, .int tf, .int ts, .int te, .int to, .int tg, .int tx, .int ty])), (h1, .inl (ch1, 700, .inl fh1))] sz)) 0 0 (va_A [(h0, .inr (10, [.ref h1, .int tt, .int ta, .int 1, .int tf, .int ts, .int te, .int to, .int tg, .int tx, .int ty])), (h1, .inl (ch1, 700, .inl fh1))] sz) := by
  refine Met.ofW (cc := cX10_next) (maxL := 1) (ret := none) (by decide) rfl ?_
  intro p e s m args below meth c s₁ B hml hv
  obtain ⟨rfl, hsz, hP, hK, hD0⟩ := hv
  have hx := B.exec
  have hb := B.bytes
  have hr := B.returns
  have hts := atoms_spec (ws := u_s_X10_next3) B.pre
  have hown : s.vm.findClass RX10 = some m.cls := findClass_of_methodNamed B.named
  have hlocks := B.notSynchronized
  subst hsz
  have hD := hD0.self (sz := s.heap.size)
  generalize hAe : va_A [(h0, .inr (10, [.ref h1, .int tt, .int ta, .int 1, .int tf, .int ts, .int te, .int to, .int tg, .int tx, .int ty])), (h1, .inl (ch1, 700, .inl fh1))] s.heap.size = A at hD ⊢
  have hA : ∀ q : Nat, s.heap.size ≤ q → A q := fun q h => by rw [← hAe]; exact Or.inr h
  have hS : va_S A s.heap s.heap [] := va_S.rf
  have hP : va_P (dC, dI) vwCl [(h0, .inr (10, [.ref h1, .int tt, .int ta, .int 1, .int tf, .int ts, .int te, .int to, .int tg, .int tx, .int ty])), (h1, .inl (ch1, 700, .inl fh1))] s.heap := hP
  have w__fieldLink_RX10_19_ShellHeap_Tape_at_I_ := hts (.fieldLink RX10 19 "ShellHeap$Tape" "at" "I") (z_mc (z_ml z_m0))
  have hiX10 := show ∀ w ∈ u_ws RX10 TX10 11, w ∈ u_s_X10_next3 from fun w h => z_mc (z_mr (z_ml h))
  have w__fieldLink_RX10_15_ShellHeap_Tape_text_I_ := hts (.fieldLink RX10 15 "ShellHeap$Tape" "text" "I") (z_mc (z_ml z_m1))
  have w__fieldLink_RX10_29_ShellHeap_Tape_start_I_ := hts (.fieldLink RX10 29 "ShellHeap$Tape" "start" "I") (z_mc (z_ml z_m2))
  have w__fieldLink_RX10_38_ShellHeap_Tape_sign_I_ := hts (.fieldLink RX10 38 "ShellHeap$Tape" "sign" "I") (z_mc (z_ml z_m3))
  have w__fieldLink_RX10_35_ShellHeap_Tape_sort_I_ := hts (.fieldLink RX10 35 "ShellHeap$Tape" "sort" "I") (z_mc (z_ml z_m10))
  have w__fieldLink_RX10_22_ShellHeap_Tape_digitsJoin_Z_ := hts (.fieldLink RX10 22 "ShellHeap$Tape" "digitsJoin" "Z") (z_mc (z_ml z_m14))
  have w__fieldLink_RX10_32_ShellHeap_Tape_end_I_ := hts (.fieldLink RX10 32 "ShellHeap$Tape" "end" "I") (z_mc (z_ml z_m18))
  have hl := lv_entry ([.ref h0]) (n := 1) (Nat.le_of_ble_eq_true rfl)
  rw [lg_entry_eq]
  generalize (lg_sl ([.ref h0]) ++ List.replicate (1 - (lg_sl ([.ref h0])).length) Slot.unset).toArray = ls at hl ⊢
  have hl : lv_has ls 1 [(0, .ref h0)] := hl
  refine z_nameQ (fun QQ hQQ => ?_)
  have loop_1 : ∀ (n_2 : Nat) (v_4 : Int32) (H : Heap) (locs : List Loc) (ls : Array Slot), (701 - (v_4).toInt).toNat < n_2 → (((0 : Int) ≤ (v_4).toInt ∧ (v_4).toInt ≤ (700 : Int))) → (f_pre f_bl fh1 (tt).toInt (ta).toInt (v_4).toInt) → ((ta).toInt ≤ (v_4).toInt ∧ (v_4).toInt ≤ (tt).toInt) → va_P (dC, dI) vwCl [(h0, .inr (10, [.ref h1, .int tt, .int v_4, .int 1, .int tf, .int ts, .int te, .int to, .int tg, .int tx, .int ty])), (h1, .inl (ch1, 700, .inl fh1))] H → va_D A [(h0, .inr (10, [.ref h1, .int tt, .int v_4, .int 1, .int tf, .int ts, .int te, .int to, .int tg, .int tx, .int ty])), (h1, .inl (ch1, 700, .inl fh1))] → va_S A s.heap H locs → lv_has ls 1 [(0, .ref h0)] → W p l e ({ frames := 2, cells := 0, slots := 0, locals := 41 } : Room) s m ([.ref h0] : List Value).toArray below meth c H locs 0 0 QQ (F0 m 0 ls []) := by
    intro n_2
    induction n_2 with
    | zero => intro v_4 H locs ls hm; exact absurd hm (Nat.not_lt_zero _)
    | succ n_2 ih_3 =>
      intro v_4 H locs ls hm hF_5 hF_6 hF_7 hP hD hS hl
      refine lv_aload_n hx hb dX10_next_0 rfl (lv_at hl 0 rfl) ?_
      refine va_get (D := (dC, dI)) (ci := 10) (v := .int v_4) (C := RX10) (T := TX10) (N := 11) hx hb hts hiX10 hown hK hP 0 rfl rfl 2 (by decide) w__fieldLink_RX10_19_ShellHeap_Tape_at_I_ (fun _ h9 => h9) rfl dX10_next_1 ?_
      refine lv_aload_n hx hb dX10_next_4 rfl (lv_at hl 0 rfl) ?_
      refine va_get (D := (dC, dI)) (ci := 10) (v := .int tt) (C := RX10) (T := TX10) (N := 11) hx hb hts hiX10 hown hK hP 0 rfl rfl 1 (by decide) w__fieldLink_RX10_15_ShellHeap_Tape_text_I_ (fun _ h9 => h9) rfl dX10_next_5 ?_
      refine lv_icmp_ge (tgt := 50) hx hb dX10_next_8 (by decide) (fun c_8 => ?_) (fun c_8 => ?_)
      · have k_9 : (tt).toInt ≤ (v_4).toInt := z_le c_8
        have hrn : f_run f_bl fh1 (tt).toInt (ta).toInt (v_4).toInt := f_run_of hF_6 (fun h9 => absurd h9 (by omega))
        refine lv_aload_n hx hb dX10_next_50 rfl (lv_at hl 0 rfl) ?_
        refine lv_aload_n hx hb dX10_next_51 rfl (lv_at hl 0 rfl) ?_
        refine va_get (D := (dC, dI)) (ci := 10) (v := .int v_4) (C := RX10) (T := TX10) (N := 11) hx hb hts hiX10 hown hK hP 0 rfl rfl 2 (by decide) w__fieldLink_RX10_19_ShellHeap_Tape_at_I_ (fun _ h9 => h9) rfl dX10_next_52 ?_
        refine va_put (D := (dC, dI)) (ci := 10) (v := .int v_4) (ty := .int) (C := RX10) (T := TX10) (N := 11) hx hb hts hiX10 tyX10 tyX10_ok nmX10 hown hK hP hD hS 0 rfl rfl 5 (by decide) w__fieldLink_RX10_29_ShellHeap_Tape_start_I_ (fun _ h9 => h9) rfl (by decide +kernel) rfl rfl (Nat.le_of_ble_eq_true rfl) dX10_next_55 (fun H_10 locs hP hD hS => ?_)
        obtain ⟨hP, hD⟩ := z_s_0_5 hP hD
        refine lv_aload_n hx hb dX10_next_58 rfl (lv_at hl 0 rfl) ?_
        refine lv_iconst (v := (-1)) hx hb dX10_next_59 (by decide) ?_
        refine va_put (D := (dC, dI)) (ci := 10) (v := .int (-1)) (ty := .int) (C := RX10) (T := TX10) (N := 11) hx hb hts hiX10 tyX10 tyX10_ok nmX10 hown hK hP hD hS 0 rfl rfl 8 (by decide) w__fieldLink_RX10_38_ShellHeap_Tape_sign_I_ (fun _ h9 => h9) rfl (by decide +kernel) rfl rfl (Nat.le_of_ble_eq_true rfl) dX10_next_60 (fun H_11 locs hP hD hS => ?_)
        obtain ⟨hP, hD⟩ := z_s_0_8 hP hD
        refine lv_aload_n hx hb dX10_next_63 rfl (lv_at hl 0 rfl) ?_
        refine va_get (D := (dC, dI)) (ci := 10) (v := .int v_4) (C := RX10) (T := TX10) (N := 11) hx hb hts hiX10 hown hK hP 0 rfl rfl 2 (by decide) w__fieldLink_RX10_19_ShellHeap_Tape_at_I_ (fun _ h9 => h9) rfl dX10_next_64 ?_
        refine lv_aload_n hx hb dX10_next_67 rfl (lv_at hl 0 rfl) ?_
        refine va_get (D := (dC, dI)) (ci := 10) (v := .int tt) (C := RX10) (T := TX10) (N := 11) hx hb hts hiX10 hown hK hP 0 rfl rfl 1 (by decide) w__fieldLink_RX10_15_ShellHeap_Tape_text_I_ (fun _ h9 => h9) rfl dX10_next_68 ?_
        refine lv_icmp_lt (tgt := 82) hx hb dX10_next_71 (by decide) (fun c_12 => ?_) (fun c_12 => ?_)
        · have k_13 : (v_4).toInt < (tt).toInt := z_lt c_12
          refine lv_aload_n hx hb dX10_next_82 rfl (lv_at hl 0 rfl) ?_
          refine lv_aload_n hx hb dX10_next_83 rfl (lv_at hl 0 rfl) ?_
          refine va_get (D := (dC, dI)) (ci := 10) (v := .int v_4) (C := RX10) (T := TX10) (N := 11) hx hb hts hiX10 hown hK hP 0 rfl rfl 2 (by decide) w__fieldLink_RX10_19_ShellHeap_Tape_at_I_ (fun _ h9 => h9) rfl dX10_next_84 ?_
          have hPc := hP
          have hDc := hD
          have hKc := hK
          have hFc := va_free (ws := []) (wc := []) (z_D0 _) hS hA [] rfl
          refine va_calli (va_runV (As := [.int v_4]) (rest := []) ⟨hx, hb, hml, hown, hts⟩ (s_X10_byteAt4 l dC dI H_11.size h0 v_4 h1 tt (.int v_4) (.int 1) (.int tf) (.int v_4) (.int te) (.int to) (.int (-1)) (.int tx) (.int ty) ch1 fh1 hB_tt hI_h1) (cwV 1 hts gw_s_X10_next3_s_X10_byteAt4_50 rfl rfl rfl (by decide +kernel) ⟨Nat.le_of_ble_eq_true rfl, Nat.le_of_ble_eq_true rfl⟩) ⟨z_blind, va_recv hKc hPc (ci := 10) (q0 := 0) rfl rfl, z_pre hPc hKc hDc⟩ rfl rfl hl.1 rfl (lv_room (Nat.le_of_ble_eq_true rfl)) dX10_next_87 ⟨Nat.le_of_ble_eq_true rfl, Nat.le_of_ble_eq_true rfl⟩) hS (fun q _ h => hFc q h) hFc (fun r_15 u t H_14 locs ht hvm hw_16 hB hz1 hk1 hS => ?_)
          replace hP := z_pure hP hk1
          clear hPc hDc hKc
          obtain ⟨hPc, hDc⟩ := z_sub2 (ws' := []) hP hD [] (by decide) rfl
          have hKc := hK.sub (tys' := []) [] rfl
          have hFc := va_free (ws := []) (wc := []) (z_D0 _) hS hA [] rfl
          refine va_calli (va_runS (As := [.int r_15]) (rest := []) ⟨hx, hb, hml, hown, hts⟩ (s_X10_isLetter3 l dC dI H_14.size r_15) (va_cwS 1 hts gw_s_X10_next3_s_X10_isLetter3_54 rfl rfl rfl (by decide +kernel) ⟨Nat.le_of_ble_eq_true rfl, Nat.le_of_ble_eq_true rfl⟩) ⟨z_blind, z_pre hPc hKc hDc⟩ rfl rfl hl.1 rfl (lv_room (Nat.le_of_ble_eq_true rfl)) dX10_next_90 ⟨Nat.le_of_ble_eq_true rfl, Nat.le_of_ble_eq_true rfl⟩) hS (fun q _ h => hFc q h) hFc (fun r_18 u t H_17 locs ht hvm hw_19 hB hz1 hk1 hS => ?_)
          replace hP := z_pure hP hk1
          clear hPc hDc hKc
          rcases hw_19 with ⟨rfl, hw_19⟩ | ⟨rfl, hw_19⟩
          · have hw_19 : f_le r_15.toInt := hw_19
            refine lv_if_eq (tgt := 119) hx hb dX10_next_93 (by decide) (fun c_20 => absurd c_20 (by decide)) (fun _ => ?_)
            refine lv_aload_n hx hb dX10_next_96 rfl (lv_at hl 0 rfl) ?_
            refine lv_iconst (v := 1) hx hb dX10_next_97 (by decide) ?_
            refine va_put (D := (dC, dI)) (ci := 10) (v := .int 1) (ty := .int) (C := RX10) (T := TX10) (N := 11) hx hb hts hiX10 tyX10 tyX10_ok nmX10 hown hK hP hD hS 0 rfl rfl 7 (by decide) w__fieldLink_RX10_35_ShellHeap_Tape_sort_I_ (fun _ h9 => h9) rfl (by decide +kernel) rfl rfl (Nat.le_of_ble_eq_true rfl) dX10_next_98 (fun H_21 locs hP hD hS => ?_)
            obtain ⟨hP, hD⟩ := z_s_0_7 hP hD
            refine lv_aload_n hx hb dX10_next_101 rfl (lv_at hl 0 rfl) ?_
            have hPc := hP
            have hDc := hD
            have hKc := hK
            have hFc := z_freeI hD hS hA
            refine va_callv (va_runV (As := []) (rest := []) ⟨hx, hb, hml, hown, hts⟩ (s_X10_passLetters3 l dC dI H_21.size h0 h1 tt v_4 (.int 1) (.int tf) (.int v_4) (.int te) (.int 1) (.int (-1)) (.int tx) (.int ty) ch1 fh1 hB_tt hF_5 hI_h1 (by first | omega | decide)) (cwV 0 hts gw_s_X10_next3_s_X10_passLetters3_58 rfl rfl rfl (by decide +kernel) ⟨Nat.le_of_ble_eq_true rfl, Nat.le_of_ble_eq_true rfl⟩) ⟨z_blind, va_recv hKc hPc (ci := 10) (q0 := 0) rfl rfl, z_pre hPc hKc hDc⟩ rfl rfl hl.1 rfl (lv_room (Nat.le_of_ble_eq_true rfl)) dX10_next_102 ⟨Nat.le_of_ble_eq_true rfl, Nat.le_of_ble_eq_true rfl⟩) hS (fun q _ h => hFc q h) hFc (fun u t H_22 locs ht hvm hw_24 hB hz1 hk1 hS => ?_)
            obtain ⟨n_h0_at_25, hp_26, hp_27, hp_28, hP1, hK1, hD1⟩ := hB
            rw [ht] at hP1
            have hK1 := va_K.moved hvm.symm hK1
            obtain ⟨hP, hD⟩ := z_ap_0 (va_join (wr := []) hP hD [0, 1] [] rfl rfl (by decide) (by decide) hk1 hFc hP1 hD1)
            have hp_27 : v_4.toInt ≤ n_h0_at_25.toInt ∧ n_h0_at_25.toInt ≤ tt.toInt := hp_27
            have hp_28 : f_run f_le fh1 tt.toInt v_4.toInt n_h0_at_25.toInt := hp_28
            clear hPc hDc hKc
            refine lv_aload_n hx hb dX10_next_105 rfl (lv_at hl 0 rfl) ?_
            refine va_get (D := (dC, dI)) (ci := 10) (v := .int 1) (C := RX10) (T := TX10) (N := 11) hx hb hts hiX10 hown hK hP 0 rfl rfl 3 (by decide) w__fieldLink_RX10_22_ShellHeap_Tape_digitsJoin_Z_ (fun _ h9 => h9) rfl dX10_next_106 ?_
            refine lv_if_eq (tgt := 154) hx hb dX10_next_109 (by decide) (fun c_29 => absurd c_29 (by decide)) (fun _ => ?_)
            refine lv_aload_n hx hb dX10_next_112 rfl (lv_at hl 0 rfl) ?_
            have hPc := hP
            have hDc := hD
            have hKc := hK
            have hFc := z_freeI hD hS hA
            refine va_callv (va_runV (As := []) (rest := []) ⟨hx, hb, hml, hown, hts⟩ (s_X10_passDigits3 l dC dI H_22.size h0 h1 tt n_h0_at_25 (.int 1) (.int tf) (.int v_4) (.int te) (.int 1) (.int (-1)) (.int tx) (.int ty) ch1 fh1 hB_tt hp_26 hI_h1 (by first | omega | decide)) (cwV 0 hts gw_s_X10_next3_s_X10_passDigits3_61 rfl rfl rfl (by decide +kernel) ⟨Nat.le_of_ble_eq_true rfl, Nat.le_of_ble_eq_true rfl⟩) ⟨z_blind, va_recv hKc hPc (ci := 10) (q0 := 0) rfl rfl, z_pre hPc hKc hDc⟩ rfl rfl hl.1 rfl (lv_room (Nat.le_of_ble_eq_true rfl)) dX10_next_113 ⟨Nat.le_of_ble_eq_true rfl, Nat.le_of_ble_eq_true rfl⟩) hS (fun q _ h => hFc q h) hFc (fun u t H_30 locs ht hvm hw_32 hB hz1 hk1 hS => ?_)
            obtain ⟨n_h0_at_33, hp_34, hp_35, hp_36, hP1, hK1, hD1⟩ := hB
            rw [ht] at hP1
            have hK1 := va_K.moved hvm.symm hK1
            obtain ⟨hP, hD⟩ := z_ap_0 (va_join (wr := []) hP hD [0, 1] [] rfl rfl (by decide) (by decide) hk1 hFc hP1 hD1)
            have hp_35 : n_h0_at_25.toInt ≤ n_h0_at_33.toInt ∧ n_h0_at_33.toInt ≤ tt.toInt := hp_35
            have hp_36 : f_run f_di fh1 tt.toInt n_h0_at_25.toInt n_h0_at_33.toInt := hp_36
            clear hPc hDc hKc
            refine lv_goto (tgt := 154) hx hb dX10_next_116 (by decide) ?_
            refine lv_aload_n hx hb dX10_next_154 rfl (lv_at hl 0 rfl) ?_
            refine lv_aload_n hx hb dX10_next_155 rfl (lv_at hl 0 rfl) ?_
            refine va_get (D := (dC, dI)) (ci := 10) (v := .int n_h0_at_33) (C := RX10) (T := TX10) (N := 11) hx hb hts hiX10 hown hK hP 0 rfl rfl 2 (by decide) w__fieldLink_RX10_19_ShellHeap_Tape_at_I_ (fun _ h9 => h9) rfl dX10_next_156 ?_
            refine va_put (D := (dC, dI)) (ci := 10) (v := .int n_h0_at_33) (ty := .int) (C := RX10) (T := TX10) (N := 11) hx hb hts hiX10 tyX10 tyX10_ok nmX10 hown hK hP hD hS 0 rfl rfl 6 (by decide) w__fieldLink_RX10_32_ShellHeap_Tape_end_I_ (fun _ h9 => h9) rfl (by decide +kernel) rfl rfl (Nat.le_of_ble_eq_true rfl) dX10_next_159 (fun H_37 locs hP hD hS => ?_)
            obtain ⟨hP, hD⟩ := z_s_0_6 hP hD
            refine z_backQ hQQ ?_
            have hP9 := hP
            have hD9 := hD
            have hK9 := hK.sub (tys' := []) [] rfl
            refine W.widen (k := 0) (n := 0) (Nat.le_of_ble_eq_true rfl) (Nat.le_of_ble_eq_true rfl) ?_
            exact W.vret hx hb hr (fun t ht hW => ⟨⟨(), rfl, trivial, ⟨n_h0_at_33, v_4, n_h0_at_33, 1, (-1), hp_34, hF_5, hp_34, (show f_run f_bl fh1 tt.toInt ta.toInt v_4.toInt from hrn), (show f_C fh1 tt.toInt (1 : Int) (-1 : Int) v_4.toInt n_h0_at_33.toInt from f_C_w hrn (by omega) (f_atb (hw_16.2.1 (by omega) (by omega)) hw_19) rfl rfl hp_28 hp_36), (show n_h0_at_33.toInt = n_h0_at_33.toInt ∧ n_h0_at_33.toInt ≤ tt.toInt ∧ v_4.toInt ≤ n_h0_at_33.toInt by omega), (show f_pg (1 : Int) v_4.toInt n_h0_at_33.toInt from fun h9 => by have hq9 := f_run_pos hp_28 (by omega) (f_atb (hw_16.2.1 (by omega) (by omega)) hw_19); omega), by rw [ht]; exact hP9, va_K.moved hW.alike hK9, hD9⟩⟩, hS.F ht⟩) hS.2.2 dX10_next_162
          · have hw_19 : ¬ f_le r_15.toInt := hw_19
            refine lv_if_eq (tgt := 119) hx hb dX10_next_93 (by decide) (fun _ => ?_) (fun c_38 => absurd (by decide) c_38)
            refine lv_aload_n hx hb dX10_next_119 rfl (lv_at hl 0 rfl) ?_
            refine lv_aload_n hx hb dX10_next_120 rfl (lv_at hl 0 rfl) ?_
            refine va_get (D := (dC, dI)) (ci := 10) (v := .int v_4) (C := RX10) (T := TX10) (N := 11) hx hb hts hiX10 hown hK hP 0 rfl rfl 2 (by decide) w__fieldLink_RX10_19_ShellHeap_Tape_at_I_ (fun _ h9 => h9) rfl dX10_next_121 ?_
            have hPc := hP
            have hDc := hD
            have hKc := hK
            have hFc := va_free (ws := []) (wc := []) (z_D0 _) hS hA [] rfl
            refine va_calli (va_runV (As := [.int v_4]) (rest := []) ⟨hx, hb, hml, hown, hts⟩ (s_X10_byteAt4 l dC dI H_17.size h0 v_4 h1 tt (.int v_4) (.int 1) (.int tf) (.int v_4) (.int te) (.int to) (.int (-1)) (.int tx) (.int ty) ch1 fh1 hB_tt hI_h1) (cwV 1 hts gw_s_X10_next3_s_X10_byteAt4_50 rfl rfl rfl (by decide +kernel) ⟨Nat.le_of_ble_eq_true rfl, Nat.le_of_ble_eq_true rfl⟩) ⟨z_blind, va_recv hKc hPc (ci := 10) (q0 := 0) rfl rfl, z_pre hPc hKc hDc⟩ rfl rfl hl.1 rfl (lv_room (Nat.le_of_ble_eq_true rfl)) dX10_next_124 ⟨Nat.le_of_ble_eq_true rfl, Nat.le_of_ble_eq_true rfl⟩) hS (fun q _ h => hFc q h) hFc (fun r_40 u t H_39 locs ht hvm hw_41 hB hz1 hk1 hS => ?_)
            replace hP := z_pure hP hk1
            clear hPc hDc hKc
            obtain ⟨hPc, hDc⟩ := z_sub2 (ws' := []) hP hD [] (by decide) rfl
            have hKc := hK.sub (tys' := []) [] rfl
            have hFc := va_free (ws := []) (wc := []) (z_D0 _) hS hA [] rfl
            refine va_calli (va_runS (As := [.int r_40]) (rest := []) ⟨hx, hb, hml, hown, hts⟩ (s_X10_isDigit3 l dC dI H_39.size r_40) (va_cwS 1 hts gw_s_X10_next3_s_X10_isDigit3_64 rfl rfl rfl (by decide +kernel) ⟨Nat.le_of_ble_eq_true rfl, Nat.le_of_ble_eq_true rfl⟩) ⟨z_blind, z_pre hPc hKc hDc⟩ rfl rfl hl.1 rfl (lv_room (Nat.le_of_ble_eq_true rfl)) dX10_next_127 ⟨Nat.le_of_ble_eq_true rfl, Nat.le_of_ble_eq_true rfl⟩) hS (fun q _ h => hFc q h) hFc (fun r_43 u t H_42 locs ht hvm hw_44 hB hz1 hk1 hS => ?_)
            replace hP := z_pure hP hk1
            clear hPc hDc hKc
            rcases hw_44 with ⟨rfl, hw_44⟩ | ⟨rfl, hw_44⟩
            · have hw_44 : f_di r_40.toInt := hw_44
              refine lv_if_eq (tgt := 145) hx hb dX10_next_130 (by decide) (fun c_45 => absurd c_45 (by decide)) (fun _ => ?_)
              refine lv_aload_n hx hb dX10_next_133 rfl (lv_at hl 0 rfl) ?_
              refine lv_iconst (v := 2) hx hb dX10_next_134 (by decide) ?_
              refine va_put (D := (dC, dI)) (ci := 10) (v := .int 2) (ty := .int) (C := RX10) (T := TX10) (N := 11) hx hb hts hiX10 tyX10 tyX10_ok nmX10 hown hK hP hD hS 0 rfl rfl 7 (by decide) w__fieldLink_RX10_35_ShellHeap_Tape_sort_I_ (fun _ h9 => h9) rfl (by decide +kernel) rfl rfl (Nat.le_of_ble_eq_true rfl) dX10_next_135 (fun H_46 locs hP hD hS => ?_)
              obtain ⟨hP, hD⟩ := z_s_0_7 hP hD
              refine lv_aload_n hx hb dX10_next_138 rfl (lv_at hl 0 rfl) ?_
              have hPc := hP
              have hDc := hD
              have hKc := hK
              have hFc := z_freeI hD hS hA
              refine va_callv (va_runV (As := []) (rest := []) ⟨hx, hb, hml, hown, hts⟩ (s_X10_passDigits3 l dC dI H_46.size h0 h1 tt v_4 (.int 1) (.int tf) (.int v_4) (.int te) (.int 2) (.int (-1)) (.int tx) (.int ty) ch1 fh1 hB_tt hF_5 hI_h1 (by first | omega | decide)) (cwV 0 hts gw_s_X10_next3_s_X10_passDigits3_61 rfl rfl rfl (by decide +kernel) ⟨Nat.le_of_ble_eq_true rfl, Nat.le_of_ble_eq_true rfl⟩) ⟨z_blind, va_recv hKc hPc (ci := 10) (q0 := 0) rfl rfl, z_pre hPc hKc hDc⟩ rfl rfl hl.1 rfl (lv_room (Nat.le_of_ble_eq_true rfl)) dX10_next_139 ⟨Nat.le_of_ble_eq_true rfl, Nat.le_of_ble_eq_true rfl⟩) hS (fun q _ h => hFc q h) hFc (fun u t H_47 locs ht hvm hw_49 hB hz1 hk1 hS => ?_)
              obtain ⟨n_h0_at_50, hp_51, hp_52, hp_53, hP1, hK1, hD1⟩ := hB
              rw [ht] at hP1
              have hK1 := va_K.moved hvm.symm hK1
              obtain ⟨hP, hD⟩ := z_ap_0 (va_join (wr := []) hP hD [0, 1] [] rfl rfl (by decide) (by decide) hk1 hFc hP1 hD1)
              have hp_52 : v_4.toInt ≤ n_h0_at_50.toInt ∧ n_h0_at_50.toInt ≤ tt.toInt := hp_52
              have hp_53 : f_run f_di fh1 tt.toInt v_4.toInt n_h0_at_50.toInt := hp_53
              clear hPc hDc hKc
              refine lv_goto (tgt := 154) hx hb dX10_next_142 (by decide) ?_
              refine lv_aload_n hx hb dX10_next_154 rfl (lv_at hl 0 rfl) ?_
              refine lv_aload_n hx hb dX10_next_155 rfl (lv_at hl 0 rfl) ?_
              refine va_get (D := (dC, dI)) (ci := 10) (v := .int n_h0_at_50) (C := RX10) (T := TX10) (N := 11) hx hb hts hiX10 hown hK hP 0 rfl rfl 2 (by decide) w__fieldLink_RX10_19_ShellHeap_Tape_at_I_ (fun _ h9 => h9) rfl dX10_next_156 ?_
              refine va_put (D := (dC, dI)) (ci := 10) (v := .int n_h0_at_50) (ty := .int) (C := RX10) (T := TX10) (N := 11) hx hb hts hiX10 tyX10 tyX10_ok nmX10 hown hK hP hD hS 0 rfl rfl 6 (by decide) w__fieldLink_RX10_32_ShellHeap_Tape_end_I_ (fun _ h9 => h9) rfl (by decide +kernel) rfl rfl (Nat.le_of_ble_eq_true rfl) dX10_next_159 (fun H_54 locs hP hD hS => ?_)
              obtain ⟨hP, hD⟩ := z_s_0_6 hP hD
              refine z_backQ hQQ ?_
              have hP9 := hP
              have hD9 := hD
              have hK9 := hK.sub (tys' := []) [] rfl
              refine W.widen (k := 0) (n := 0) (Nat.le_of_ble_eq_true rfl) (Nat.le_of_ble_eq_true rfl) ?_
              exact W.vret hx hb hr (fun t ht hW => ⟨⟨(), rfl, trivial, ⟨n_h0_at_50, v_4, n_h0_at_50, 2, (-1), hp_51, hF_5, hp_51, (show f_run f_bl fh1 tt.toInt ta.toInt v_4.toInt from hrn), (show f_C fh1 tt.toInt (2 : Int) (-1 : Int) v_4.toInt n_h0_at_50.toInt from f_C_n hrn (by omega) (f_atb (hw_41.2.1 (by omega) (by omega)) hw_44) rfl rfl hp_53), (show n_h0_at_50.toInt = n_h0_at_50.toInt ∧ n_h0_at_50.toInt ≤ tt.toInt ∧ v_4.toInt ≤ n_h0_at_50.toInt by omega), (show f_pg (2 : Int) v_4.toInt n_h0_at_50.toInt from fun h9 => by have hq9 := f_run_pos hp_53 (by omega) (f_atb (hw_41.2.1 (by omega) (by omega)) hw_44); omega), by rw [ht]; exact hP9, va_K.moved hW.alike hK9, hD9⟩⟩, hS.F ht⟩) hS.2.2 dX10_next_162
            · have hw_44 : ¬ f_di r_40.toInt := hw_44
              refine lv_if_eq (tgt := 145) hx hb dX10_next_130 (by decide) (fun _ => ?_) (fun c_55 => absurd (by decide) c_55)
              refine lv_aload_n hx hb dX10_next_145 rfl (lv_at hl 0 rfl) ?_
              refine lv_iconst (v := 3) hx hb dX10_next_146 (by decide) ?_
              refine va_put (D := (dC, dI)) (ci := 10) (v := .int 3) (ty := .int) (C := RX10) (T := TX10) (N := 11) hx hb hts hiX10 tyX10 tyX10_ok nmX10 hown hK hP hD hS 0 rfl rfl 7 (by decide) w__fieldLink_RX10_35_ShellHeap_Tape_sort_I_ (fun _ h9 => h9) rfl (by decide +kernel) rfl rfl (Nat.le_of_ble_eq_true rfl) dX10_next_147 (fun H_56 locs hP hD hS => ?_)
              obtain ⟨hP, hD⟩ := z_s_0_7 hP hD
              refine lv_aload_n hx hb dX10_next_150 rfl (lv_at hl 0 rfl) ?_
              have hPc := hP
              have hDc := hD
              have hKc := hK
              have hFc := z_freeI hD hS hA
              refine va_callv (va_runV (As := []) (rest := []) ⟨hx, hb, hml, hown, hts⟩ (s_X10_passSign3 l dC dI H_56.size h0 h1 tt v_4 (.int 1) (.int tf) (.int v_4) (.int te) (.int 3) (-1) (.int tx) (.int ty) ch1 fh1 hB_tt hF_5 hI_h1 (by first | omega | decide)) (cwV 0 hts gw_s_X10_next3_s_X10_passSign3_67 rfl rfl rfl (by decide +kernel) ⟨Nat.le_of_ble_eq_true rfl, Nat.le_of_ble_eq_true rfl⟩) ⟨z_blind, va_recv hKc hPc (ci := 10) (q0 := 0) rfl rfl, z_pre hPc hKc hDc⟩ rfl rfl hl.1 rfl (lv_room (Nat.le_of_ble_eq_true rfl)) dX10_next_151 ⟨Nat.le_of_ble_eq_true rfl, Nat.le_of_ble_eq_true rfl⟩) hS (fun q _ h => hFc q h) hFc (fun u t H_57 locs ht hvm hw_59 hB hz1 hk1 hS => ?_)
              obtain ⟨n_h0_at_60, n_h0_sign_61, hp_62, hp_63, hp_64, hP1, hK1, hD1⟩ := hB
              rw [ht] at hP1
              have hK1 := va_K.moved hvm.symm hK1
              obtain ⟨hP, hD⟩ := z_ap_0 (va_join (wr := []) hP hD [0, 1] [] rfl rfl (by decide) (by decide) hk1 hFc hP1 hD1)
              have hp_63 : v_4.toInt < n_h0_at_60.toInt ∧ n_h0_at_60.toInt ≤ tt.toInt := hp_63
              have hp_64 : f_sC (fh1 v_4.toNatClampNeg).toInt n_h0_sign_61.toInt v_4.toInt n_h0_at_60.toInt := hp_64
              clear hPc hDc hKc
              refine lv_aload_n hx hb dX10_next_154 rfl (lv_at hl 0 rfl) ?_
              refine lv_aload_n hx hb dX10_next_155 rfl (lv_at hl 0 rfl) ?_
              refine va_get (D := (dC, dI)) (ci := 10) (v := .int n_h0_at_60) (C := RX10) (T := TX10) (N := 11) hx hb hts hiX10 hown hK hP 0 rfl rfl 2 (by decide) w__fieldLink_RX10_19_ShellHeap_Tape_at_I_ (fun _ h9 => h9) rfl dX10_next_156 ?_
              refine va_put (D := (dC, dI)) (ci := 10) (v := .int n_h0_at_60) (ty := .int) (C := RX10) (T := TX10) (N := 11) hx hb hts hiX10 tyX10 tyX10_ok nmX10 hown hK hP hD hS 0 rfl rfl 6 (by decide) w__fieldLink_RX10_32_ShellHeap_Tape_end_I_ (fun _ h9 => h9) rfl (by decide +kernel) rfl rfl (Nat.le_of_ble_eq_true rfl) dX10_next_159 (fun H_65 locs hP hD hS => ?_)
              obtain ⟨hP, hD⟩ := z_s_0_6 hP hD
              refine z_backQ hQQ ?_
              have hP9 := hP
              have hD9 := hD
              have hK9 := hK.sub (tys' := []) [] rfl
              refine W.widen (k := 0) (n := 0) (Nat.le_of_ble_eq_true rfl) (Nat.le_of_ble_eq_true rfl) ?_
              exact W.vret hx hb hr (fun t ht hW => ⟨⟨(), rfl, trivial, ⟨n_h0_at_60, v_4, n_h0_at_60, 3, n_h0_sign_61, hp_62, hF_5, hp_62, (show f_run f_bl fh1 tt.toInt ta.toInt v_4.toInt from hrn), (show f_C fh1 tt.toInt (3 : Int) n_h0_sign_61.toInt v_4.toInt n_h0_at_60.toInt from f_C_s hrn (by omega) (f_atn (hw_16.2.1 (by omega) (by omega)) hw_19) (f_atn (hw_41.2.1 (by omega) (by omega)) hw_44) rfl hp_64), (show n_h0_at_60.toInt = n_h0_at_60.toInt ∧ n_h0_at_60.toInt ≤ tt.toInt ∧ v_4.toInt ≤ n_h0_at_60.toInt by omega), (show f_pg (3 : Int) v_4.toInt n_h0_at_60.toInt from fun h9 => by omega), by rw [ht]; exact hP9, va_K.moved hW.alike hK9, hD9⟩⟩, hS.F ht⟩) hS.2.2 dX10_next_162
        · have k_66 : (v_4).toInt ≥ (tt).toInt := z_nlt c_12
          refine lv_aload_n hx hb dX10_next_74 rfl (lv_at hl 0 rfl) ?_
          refine lv_iconst (v := 0) hx hb dX10_next_75 (by decide) ?_
          refine va_put (D := (dC, dI)) (ci := 10) (v := .int 0) (ty := .int) (C := RX10) (T := TX10) (N := 11) hx hb hts hiX10 tyX10 tyX10_ok nmX10 hown hK hP hD hS 0 rfl rfl 7 (by decide) w__fieldLink_RX10_35_ShellHeap_Tape_sort_I_ (fun _ h9 => h9) rfl (by decide +kernel) rfl rfl (Nat.le_of_ble_eq_true rfl) dX10_next_76 (fun H_67 locs hP hD hS => ?_)
          obtain ⟨hP, hD⟩ := z_s_0_7 hP hD
          refine lv_goto (tgt := 154) hx hb dX10_next_79 (by decide) ?_
          refine lv_aload_n hx hb dX10_next_154 rfl (lv_at hl 0 rfl) ?_
          refine lv_aload_n hx hb dX10_next_155 rfl (lv_at hl 0 rfl) ?_
          refine va_get (D := (dC, dI)) (ci := 10) (v := .int v_4) (C := RX10) (T := TX10) (N := 11) hx hb hts hiX10 hown hK hP 0 rfl rfl 2 (by decide) w__fieldLink_RX10_19_ShellHeap_Tape_at_I_ (fun _ h9 => h9) rfl dX10_next_156 ?_
          refine va_put (D := (dC, dI)) (ci := 10) (v := .int v_4) (ty := .int) (C := RX10) (T := TX10) (N := 11) hx hb hts hiX10 tyX10 tyX10_ok nmX10 hown hK hP hD hS 0 rfl rfl 6 (by decide) w__fieldLink_RX10_32_ShellHeap_Tape_end_I_ (fun _ h9 => h9) rfl (by decide +kernel) rfl rfl (Nat.le_of_ble_eq_true rfl) dX10_next_159 (fun H_68 locs hP hD hS => ?_)
          obtain ⟨hP, hD⟩ := z_s_0_6 hP hD
          refine z_backQ hQQ ?_
          have hP9 := hP
          have hD9 := hD
          have hK9 := hK.sub (tys' := []) [] rfl
          refine W.widen (k := 0) (n := 0) (Nat.le_of_ble_eq_true rfl) (Nat.le_of_ble_eq_true rfl) ?_
          exact W.vret hx hb hr (fun t ht hW => ⟨⟨(), rfl, trivial, ⟨v_4, v_4, v_4, 0, (-1), hF_5, hF_5, hF_5, (show f_run f_bl fh1 tt.toInt ta.toInt v_4.toInt from hrn), (show f_C fh1 tt.toInt (0 : Int) (-1 : Int) v_4.toInt v_4.toInt from f_C_e hrn (by omega) rfl rfl rfl), (show v_4.toInt = v_4.toInt ∧ v_4.toInt ≤ tt.toInt ∧ v_4.toInt ≤ v_4.toInt by omega), (show f_pg (0 : Int) v_4.toInt v_4.toInt from fun h9 => by omega), by rw [ht]; exact hP9, va_K.moved hW.alike hK9, hD9⟩⟩, hS.F ht⟩) hS.2.2 dX10_next_162
      · have k_69 : (tt).toInt > (v_4).toInt := z_nle c_8
        refine lv_aload_n hx hb dX10_next_11 rfl (lv_at hl 0 rfl) ?_
        refine lv_aload_n hx hb dX10_next_12 rfl (lv_at hl 0 rfl) ?_
        refine va_get (D := (dC, dI)) (ci := 10) (v := .int v_4) (C := RX10) (T := TX10) (N := 11) hx hb hts hiX10 hown hK hP 0 rfl rfl 2 (by decide) w__fieldLink_RX10_19_ShellHeap_Tape_at_I_ (fun _ h9 => h9) rfl dX10_next_13 ?_
        have hPc := hP
        have hDc := hD
        have hKc := hK
        have hFc := va_free (ws := []) (wc := []) (z_D0 _) hS hA [] rfl
        refine va_calli (va_runV (As := [.int v_4]) (rest := []) ⟨hx, hb, hml, hown, hts⟩ (s_X10_byteAt4 l dC dI H.size h0 v_4 h1 tt (.int v_4) (.int 1) (.int tf) (.int ts) (.int te) (.int to) (.int tg) (.int tx) (.int ty) ch1 fh1 hB_tt hI_h1) (cwV 1 hts gw_s_X10_next3_s_X10_byteAt4_50 rfl rfl rfl (by decide +kernel) ⟨Nat.le_of_ble_eq_true rfl, Nat.le_of_ble_eq_true rfl⟩) ⟨z_blind, va_recv hKc hPc (ci := 10) (q0 := 0) rfl rfl, z_pre hPc hKc hDc⟩ rfl rfl hl.1 rfl (lv_room (Nat.le_of_ble_eq_true rfl)) dX10_next_16 ⟨Nat.le_of_ble_eq_true rfl, Nat.le_of_ble_eq_true rfl⟩) hS (fun q _ h => hFc q h) hFc (fun r_71 u t H_70 locs ht hvm hw_72 hB hz1 hk1 hS => ?_)
        replace hP := z_pure hP hk1
        clear hPc hDc hKc
        refine lv_bipush (v := 10) hx hb dX10_next_19 (by decide) ?_
        refine lv_icmp_eq (tgt := 37) hx hb dX10_next_21 (by decide) (fun c_73 => ?_) (fun c_73 => ?_)
        · have k_74 : (r_71).toInt = (10 : Int) := z_eq c_73
          obtain rfl : r_71 = 10 := z_eq' (show (r_71).toInt = (10 : Int) by omega)
          refine lv_aload_n hx hb dX10_next_37 rfl (lv_at hl 0 rfl) ?_
          refine lv_dup hx hb dX10_next_38 rfl ?_
          refine va_get (D := (dC, dI)) (ci := 10) (v := .int v_4) (C := RX10) (T := TX10) (N := 11) hx hb hts hiX10 hown hK hP 0 rfl rfl 2 (by decide) w__fieldLink_RX10_19_ShellHeap_Tape_at_I_ (fun _ h9 => h9) rfl dX10_next_39 ?_
          refine lv_iconst (v := 1) hx hb dX10_next_42 (by decide) ?_
          refine lv_iadd hx hb dX10_next_43 ?_
          refine lv_topi (fun z_76 ez_76 => ?_)
          have kz_76 : (z_76).toInt = (v_4).toInt + (1 : Int) := by rw [ez_76]; exact z_add (a := (v_4).toInt) (b := (1 : Int)) rfl rfl (z_al hF_5.1 (by decide)) (z_ah hF_5.2 (by decide))
          refine va_put (D := (dC, dI)) (ci := 10) (v := .int z_76) (ty := .int) (C := RX10) (T := TX10) (N := 11) hx hb hts hiX10 tyX10 tyX10_ok nmX10 hown hK hP hD hS 0 rfl rfl 2 (by decide) w__fieldLink_RX10_19_ShellHeap_Tape_at_I_ (fun _ h9 => h9) rfl (by decide +kernel) rfl rfl (Nat.le_of_ble_eq_true rfl) dX10_next_44 (fun H_77 locs hP hD hS => ?_)
          obtain ⟨hP, hD⟩ := z_s_0_2 hP hD
          refine lv_goto (tgt := 0) hx hb dX10_next_47 (by decide) ?_
          exact ih_3 z_76 _ _ _ (show (701 - (z_76).toInt).toNat < n_2 by omega) (show ((0 : Int) ≤ (z_76).toInt ∧ (z_76).toInt ≤ (700 : Int)) by omega) (show f_pre f_bl fh1 (tt).toInt (ta).toInt (z_76).toInt from f_pre1 (i := v_4) hF_6 (by omega) (by omega) (f_atb (hw_72.2.1 (by omega) (by omega)) (by first | (unfold f_bl; omega) | (unfold f_bl; decide))) (by omega)) (show (ta).toInt ≤ (z_76).toInt ∧ (z_76).toInt ≤ (tt).toInt by omega) hP hD hS (lv_sub hl [0] rfl)
        · have k_78 : (r_71).toInt ≠ (10 : Int) := z_ne c_73
          refine lv_aload_n hx hb dX10_next_24 rfl (lv_at hl 0 rfl) ?_
          refine lv_aload_n hx hb dX10_next_25 rfl (lv_at hl 0 rfl) ?_
          refine va_get (D := (dC, dI)) (ci := 10) (v := .int v_4) (C := RX10) (T := TX10) (N := 11) hx hb hts hiX10 hown hK hP 0 rfl rfl 2 (by decide) w__fieldLink_RX10_19_ShellHeap_Tape_at_I_ (fun _ h9 => h9) rfl dX10_next_26 ?_
          have hPc := hP
          have hDc := hD
          have hKc := hK
          have hFc := va_free (ws := []) (wc := []) (z_D0 _) hS hA [] rfl
          refine va_calli (va_runV (As := [.int v_4]) (rest := []) ⟨hx, hb, hml, hown, hts⟩ (s_X10_byteAt4 l dC dI H_70.size h0 v_4 h1 tt (.int v_4) (.int 1) (.int tf) (.int ts) (.int te) (.int to) (.int tg) (.int tx) (.int ty) ch1 fh1 hB_tt hI_h1) (cwV 1 hts gw_s_X10_next3_s_X10_byteAt4_50 rfl rfl rfl (by decide +kernel) ⟨Nat.le_of_ble_eq_true rfl, Nat.le_of_ble_eq_true rfl⟩) ⟨z_blind, va_recv hKc hPc (ci := 10) (q0 := 0) rfl rfl, z_pre hPc hKc hDc⟩ rfl rfl hl.1 rfl (lv_room (Nat.le_of_ble_eq_true rfl)) dX10_next_29 ⟨Nat.le_of_ble_eq_true rfl, Nat.le_of_ble_eq_true rfl⟩) hS (fun q _ h => hFc q h) hFc (fun r_80 u t H_79 locs ht hvm hw_81 hB hz1 hk1 hS => ?_)
          replace hP := z_pure hP hk1
          clear hPc hDc hKc
          refine lv_bipush (v := 32) hx hb dX10_next_32 (by decide) ?_
          refine lv_icmp_ne (tgt := 50) hx hb dX10_next_34 (by decide) (fun c_82 => ?_) (fun c_82 => ?_)
          · have k_83 : (r_80).toInt ≠ (32 : Int) := z_ne c_82
            have hrn : f_run f_bl fh1 (tt).toInt (ta).toInt (v_4).toInt := f_run_of hF_6 (fun _ => f_bl_n (hw_72.2.1 (by omega) (by omega)) (hw_81.2.1 (by omega) (by omega)) (by omega) (by omega))
            refine lv_aload_n hx hb dX10_next_50 rfl (lv_at hl 0 rfl) ?_
            refine lv_aload_n hx hb dX10_next_51 rfl (lv_at hl 0 rfl) ?_
            refine va_get (D := (dC, dI)) (ci := 10) (v := .int v_4) (C := RX10) (T := TX10) (N := 11) hx hb hts hiX10 hown hK hP 0 rfl rfl 2 (by decide) w__fieldLink_RX10_19_ShellHeap_Tape_at_I_ (fun _ h9 => h9) rfl dX10_next_52 ?_
            refine va_put (D := (dC, dI)) (ci := 10) (v := .int v_4) (ty := .int) (C := RX10) (T := TX10) (N := 11) hx hb hts hiX10 tyX10 tyX10_ok nmX10 hown hK hP hD hS 0 rfl rfl 5 (by decide) w__fieldLink_RX10_29_ShellHeap_Tape_start_I_ (fun _ h9 => h9) rfl (by decide +kernel) rfl rfl (Nat.le_of_ble_eq_true rfl) dX10_next_55 (fun H_84 locs hP hD hS => ?_)
            obtain ⟨hP, hD⟩ := z_s_0_5 hP hD
            refine lv_aload_n hx hb dX10_next_58 rfl (lv_at hl 0 rfl) ?_
            refine lv_iconst (v := (-1)) hx hb dX10_next_59 (by decide) ?_
            refine va_put (D := (dC, dI)) (ci := 10) (v := .int (-1)) (ty := .int) (C := RX10) (T := TX10) (N := 11) hx hb hts hiX10 tyX10 tyX10_ok nmX10 hown hK hP hD hS 0 rfl rfl 8 (by decide) w__fieldLink_RX10_38_ShellHeap_Tape_sign_I_ (fun _ h9 => h9) rfl (by decide +kernel) rfl rfl (Nat.le_of_ble_eq_true rfl) dX10_next_60 (fun H_85 locs hP hD hS => ?_)
            obtain ⟨hP, hD⟩ := z_s_0_8 hP hD
            refine lv_aload_n hx hb dX10_next_63 rfl (lv_at hl 0 rfl) ?_
            refine va_get (D := (dC, dI)) (ci := 10) (v := .int v_4) (C := RX10) (T := TX10) (N := 11) hx hb hts hiX10 hown hK hP 0 rfl rfl 2 (by decide) w__fieldLink_RX10_19_ShellHeap_Tape_at_I_ (fun _ h9 => h9) rfl dX10_next_64 ?_
            refine lv_aload_n hx hb dX10_next_67 rfl (lv_at hl 0 rfl) ?_
            refine va_get (D := (dC, dI)) (ci := 10) (v := .int tt) (C := RX10) (T := TX10) (N := 11) hx hb hts hiX10 hown hK hP 0 rfl rfl 1 (by decide) w__fieldLink_RX10_15_ShellHeap_Tape_text_I_ (fun _ h9 => h9) rfl dX10_next_68 ?_
            refine lv_icmp_lt (tgt := 82) hx hb dX10_next_71 (by decide) (fun c_86 => ?_) (fun c_86 => ?_)
            · have k_87 : (v_4).toInt < (tt).toInt := z_lt c_86
              refine lv_aload_n hx hb dX10_next_82 rfl (lv_at hl 0 rfl) ?_
              refine lv_aload_n hx hb dX10_next_83 rfl (lv_at hl 0 rfl) ?_
              refine va_get (D := (dC, dI)) (ci := 10) (v := .int v_4) (C := RX10) (T := TX10) (N := 11) hx hb hts hiX10 hown hK hP 0 rfl rfl 2 (by decide) w__fieldLink_RX10_19_ShellHeap_Tape_at_I_ (fun _ h9 => h9) rfl dX10_next_84 ?_
              have hPc := hP
              have hDc := hD
              have hKc := hK
              have hFc := va_free (ws := []) (wc := []) (z_D0 _) hS hA [] rfl
              refine va_calli (va_runV (As := [.int v_4]) (rest := []) ⟨hx, hb, hml, hown, hts⟩ (s_X10_byteAt4 l dC dI H_85.size h0 v_4 h1 tt (.int v_4) (.int 1) (.int tf) (.int v_4) (.int te) (.int to) (.int (-1)) (.int tx) (.int ty) ch1 fh1 hB_tt hI_h1) (cwV 1 hts gw_s_X10_next3_s_X10_byteAt4_50 rfl rfl rfl (by decide +kernel) ⟨Nat.le_of_ble_eq_true rfl, Nat.le_of_ble_eq_true rfl⟩) ⟨z_blind, va_recv hKc hPc (ci := 10) (q0 := 0) rfl rfl, z_pre hPc hKc hDc⟩ rfl rfl hl.1 rfl (lv_room (Nat.le_of_ble_eq_true rfl)) dX10_next_87 ⟨Nat.le_of_ble_eq_true rfl, Nat.le_of_ble_eq_true rfl⟩) hS (fun q _ h => hFc q h) hFc (fun r_89 u t H_88 locs ht hvm hw_90 hB hz1 hk1 hS => ?_)
              replace hP := z_pure hP hk1
              clear hPc hDc hKc
              obtain ⟨hPc, hDc⟩ := z_sub2 (ws' := []) hP hD [] (by decide) rfl
              have hKc := hK.sub (tys' := []) [] rfl
              have hFc := va_free (ws := []) (wc := []) (z_D0 _) hS hA [] rfl
              refine va_calli (va_runS (As := [.int r_89]) (rest := []) ⟨hx, hb, hml, hown, hts⟩ (s_X10_isLetter3 l dC dI H_88.size r_89) (va_cwS 1 hts gw_s_X10_next3_s_X10_isLetter3_54 rfl rfl rfl (by decide +kernel) ⟨Nat.le_of_ble_eq_true rfl, Nat.le_of_ble_eq_true rfl⟩) ⟨z_blind, z_pre hPc hKc hDc⟩ rfl rfl hl.1 rfl (lv_room (Nat.le_of_ble_eq_true rfl)) dX10_next_90 ⟨Nat.le_of_ble_eq_true rfl, Nat.le_of_ble_eq_true rfl⟩) hS (fun q _ h => hFc q h) hFc (fun r_92 u t H_91 locs ht hvm hw_93 hB hz1 hk1 hS => ?_)
              replace hP := z_pure hP hk1
              clear hPc hDc hKc
              rcases hw_93 with ⟨rfl, hw_93⟩ | ⟨rfl, hw_93⟩
              · have hw_93 : f_le r_89.toInt := hw_93
                refine lv_if_eq (tgt := 119) hx hb dX10_next_93 (by decide) (fun c_94 => absurd c_94 (by decide)) (fun _ => ?_)
                refine lv_aload_n hx hb dX10_next_96 rfl (lv_at hl 0 rfl) ?_
                refine lv_iconst (v := 1) hx hb dX10_next_97 (by decide) ?_
                refine va_put (D := (dC, dI)) (ci := 10) (v := .int 1) (ty := .int) (C := RX10) (T := TX10) (N := 11) hx hb hts hiX10 tyX10 tyX10_ok nmX10 hown hK hP hD hS 0 rfl rfl 7 (by decide) w__fieldLink_RX10_35_ShellHeap_Tape_sort_I_ (fun _ h9 => h9) rfl (by decide +kernel) rfl rfl (Nat.le_of_ble_eq_true rfl) dX10_next_98 (fun H_95 locs hP hD hS => ?_)
                obtain ⟨hP, hD⟩ := z_s_0_7 hP hD
                refine lv_aload_n hx hb dX10_next_101 rfl (lv_at hl 0 rfl) ?_
                have hPc := hP
                have hDc := hD
                have hKc := hK
                have hFc := z_freeI hD hS hA
                refine va_callv (va_runV (As := []) (rest := []) ⟨hx, hb, hml, hown, hts⟩ (s_X10_passLetters3 l dC dI H_95.size h0 h1 tt v_4 (.int 1) (.int tf) (.int v_4) (.int te) (.int 1) (.int (-1)) (.int tx) (.int ty) ch1 fh1 hB_tt hF_5 hI_h1 (by first | omega | decide)) (cwV 0 hts gw_s_X10_next3_s_X10_passLetters3_58 rfl rfl rfl (by decide +kernel) ⟨Nat.le_of_ble_eq_true rfl, Nat.le_of_ble_eq_true rfl⟩) ⟨z_blind, va_recv hKc hPc (ci := 10) (q0 := 0) rfl rfl, z_pre hPc hKc hDc⟩ rfl rfl hl.1 rfl (lv_room (Nat.le_of_ble_eq_true rfl)) dX10_next_102 ⟨Nat.le_of_ble_eq_true rfl, Nat.le_of_ble_eq_true rfl⟩) hS (fun q _ h => hFc q h) hFc (fun u t H_96 locs ht hvm hw_98 hB hz1 hk1 hS => ?_)
                obtain ⟨n_h0_at_99, hp_100, hp_101, hp_102, hP1, hK1, hD1⟩ := hB
                rw [ht] at hP1
                have hK1 := va_K.moved hvm.symm hK1
                obtain ⟨hP, hD⟩ := z_ap_0 (va_join (wr := []) hP hD [0, 1] [] rfl rfl (by decide) (by decide) hk1 hFc hP1 hD1)
                have hp_101 : v_4.toInt ≤ n_h0_at_99.toInt ∧ n_h0_at_99.toInt ≤ tt.toInt := hp_101
                have hp_102 : f_run f_le fh1 tt.toInt v_4.toInt n_h0_at_99.toInt := hp_102
                clear hPc hDc hKc
                refine lv_aload_n hx hb dX10_next_105 rfl (lv_at hl 0 rfl) ?_
                refine va_get (D := (dC, dI)) (ci := 10) (v := .int 1) (C := RX10) (T := TX10) (N := 11) hx hb hts hiX10 hown hK hP 0 rfl rfl 3 (by decide) w__fieldLink_RX10_22_ShellHeap_Tape_digitsJoin_Z_ (fun _ h9 => h9) rfl dX10_next_106 ?_
                refine lv_if_eq (tgt := 154) hx hb dX10_next_109 (by decide) (fun c_103 => absurd c_103 (by decide)) (fun _ => ?_)
                refine lv_aload_n hx hb dX10_next_112 rfl (lv_at hl 0 rfl) ?_
                have hPc := hP
                have hDc := hD
                have hKc := hK
                have hFc := z_freeI hD hS hA
                refine va_callv (va_runV (As := []) (rest := []) ⟨hx, hb, hml, hown, hts⟩ (s_X10_passDigits3 l dC dI H_96.size h0 h1 tt n_h0_at_99 (.int 1) (.int tf) (.int v_4) (.int te) (.int 1) (.int (-1)) (.int tx) (.int ty) ch1 fh1 hB_tt hp_100 hI_h1 (by first | omega | decide)) (cwV 0 hts gw_s_X10_next3_s_X10_passDigits3_61 rfl rfl rfl (by decide +kernel) ⟨Nat.le_of_ble_eq_true rfl, Nat.le_of_ble_eq_true rfl⟩) ⟨z_blind, va_recv hKc hPc (ci := 10) (q0 := 0) rfl rfl, z_pre hPc hKc hDc⟩ rfl rfl hl.1 rfl (lv_room (Nat.le_of_ble_eq_true rfl)) dX10_next_113 ⟨Nat.le_of_ble_eq_true rfl, Nat.le_of_ble_eq_true rfl⟩) hS (fun q _ h => hFc q h) hFc (fun u t H_104 locs ht hvm hw_106 hB hz1 hk1 hS => ?_)
                obtain ⟨n_h0_at_107, hp_108, hp_109, hp_110, hP1, hK1, hD1⟩ := hB
                rw [ht] at hP1
                have hK1 := va_K.moved hvm.symm hK1
                obtain ⟨hP, hD⟩ := z_ap_0 (va_join (wr := []) hP hD [0, 1] [] rfl rfl (by decide) (by decide) hk1 hFc hP1 hD1)
                have hp_109 : n_h0_at_99.toInt ≤ n_h0_at_107.toInt ∧ n_h0_at_107.toInt ≤ tt.toInt := hp_109
                have hp_110 : f_run f_di fh1 tt.toInt n_h0_at_99.toInt n_h0_at_107.toInt := hp_110
                clear hPc hDc hKc
                refine lv_goto (tgt := 154) hx hb dX10_next_116 (by decide) ?_
                refine lv_aload_n hx hb dX10_next_154 rfl (lv_at hl 0 rfl) ?_
                refine lv_aload_n hx hb dX10_next_155 rfl (lv_at hl 0 rfl) ?_
                refine va_get (D := (dC, dI)) (ci := 10) (v := .int n_h0_at_107) (C := RX10) (T := TX10) (N := 11) hx hb hts hiX10 hown hK hP 0 rfl rfl 2 (by decide) w__fieldLink_RX10_19_ShellHeap_Tape_at_I_ (fun _ h9 => h9) rfl dX10_next_156 ?_
                refine va_put (D := (dC, dI)) (ci := 10) (v := .int n_h0_at_107) (ty := .int) (C := RX10) (T := TX10) (N := 11) hx hb hts hiX10 tyX10 tyX10_ok nmX10 hown hK hP hD hS 0 rfl rfl 6 (by decide) w__fieldLink_RX10_32_ShellHeap_Tape_end_I_ (fun _ h9 => h9) rfl (by decide +kernel) rfl rfl (Nat.le_of_ble_eq_true rfl) dX10_next_159 (fun H_111 locs hP hD hS => ?_)
                obtain ⟨hP, hD⟩ := z_s_0_6 hP hD
                refine z_backQ hQQ ?_
                have hP9 := hP
                have hD9 := hD
                have hK9 := hK.sub (tys' := []) [] rfl
                refine W.widen (k := 0) (n := 0) (Nat.le_of_ble_eq_true rfl) (Nat.le_of_ble_eq_true rfl) ?_
                exact W.vret hx hb hr (fun t ht hW => ⟨⟨(), rfl, trivial, ⟨n_h0_at_107, v_4, n_h0_at_107, 1, (-1), hp_108, hF_5, hp_108, (show f_run f_bl fh1 tt.toInt ta.toInt v_4.toInt from hrn), (show f_C fh1 tt.toInt (1 : Int) (-1 : Int) v_4.toInt n_h0_at_107.toInt from f_C_w hrn (by omega) (f_atb (hw_90.2.1 (by omega) (by omega)) hw_93) rfl rfl hp_102 hp_110), (show n_h0_at_107.toInt = n_h0_at_107.toInt ∧ n_h0_at_107.toInt ≤ tt.toInt ∧ v_4.toInt ≤ n_h0_at_107.toInt by omega), (show f_pg (1 : Int) v_4.toInt n_h0_at_107.toInt from fun h9 => by have hq9 := f_run_pos hp_102 (by omega) (f_atb (hw_90.2.1 (by omega) (by omega)) hw_93); omega), by rw [ht]; exact hP9, va_K.moved hW.alike hK9, hD9⟩⟩, hS.F ht⟩) hS.2.2 dX10_next_162
              · have hw_93 : ¬ f_le r_89.toInt := hw_93
                refine lv_if_eq (tgt := 119) hx hb dX10_next_93 (by decide) (fun _ => ?_) (fun c_112 => absurd (by decide) c_112)
                refine lv_aload_n hx hb dX10_next_119 rfl (lv_at hl 0 rfl) ?_
                refine lv_aload_n hx hb dX10_next_120 rfl (lv_at hl 0 rfl) ?_
                refine va_get (D := (dC, dI)) (ci := 10) (v := .int v_4) (C := RX10) (T := TX10) (N := 11) hx hb hts hiX10 hown hK hP 0 rfl rfl 2 (by decide) w__fieldLink_RX10_19_ShellHeap_Tape_at_I_ (fun _ h9 => h9) rfl dX10_next_121 ?_
                have hPc := hP
                have hDc := hD
                have hKc := hK
                have hFc := va_free (ws := []) (wc := []) (z_D0 _) hS hA [] rfl
                refine va_calli (va_runV (As := [.int v_4]) (rest := []) ⟨hx, hb, hml, hown, hts⟩ (s_X10_byteAt4 l dC dI H_91.size h0 v_4 h1 tt (.int v_4) (.int 1) (.int tf) (.int v_4) (.int te) (.int to) (.int (-1)) (.int tx) (.int ty) ch1 fh1 hB_tt hI_h1) (cwV 1 hts gw_s_X10_next3_s_X10_byteAt4_50 rfl rfl rfl (by decide +kernel) ⟨Nat.le_of_ble_eq_true rfl, Nat.le_of_ble_eq_true rfl⟩) ⟨z_blind, va_recv hKc hPc (ci := 10) (q0 := 0) rfl rfl, z_pre hPc hKc hDc⟩ rfl rfl hl.1 rfl (lv_room (Nat.le_of_ble_eq_true rfl)) dX10_next_124 ⟨Nat.le_of_ble_eq_true rfl, Nat.le_of_ble_eq_true rfl⟩) hS (fun q _ h => hFc q h) hFc (fun r_114 u t H_113 locs ht hvm hw_115 hB hz1 hk1 hS => ?_)
                replace hP := z_pure hP hk1
                clear hPc hDc hKc
                obtain ⟨hPc, hDc⟩ := z_sub2 (ws' := []) hP hD [] (by decide) rfl
                have hKc := hK.sub (tys' := []) [] rfl
                have hFc := va_free (ws := []) (wc := []) (z_D0 _) hS hA [] rfl
                refine va_calli (va_runS (As := [.int r_114]) (rest := []) ⟨hx, hb, hml, hown, hts⟩ (s_X10_isDigit3 l dC dI H_113.size r_114) (va_cwS 1 hts gw_s_X10_next3_s_X10_isDigit3_64 rfl rfl rfl (by decide +kernel) ⟨Nat.le_of_ble_eq_true rfl, Nat.le_of_ble_eq_true rfl⟩) ⟨z_blind, z_pre hPc hKc hDc⟩ rfl rfl hl.1 rfl (lv_room (Nat.le_of_ble_eq_true rfl)) dX10_next_127 ⟨Nat.le_of_ble_eq_true rfl, Nat.le_of_ble_eq_true rfl⟩) hS (fun q _ h => hFc q h) hFc (fun r_117 u t H_116 locs ht hvm hw_118 hB hz1 hk1 hS => ?_)
                replace hP := z_pure hP hk1
                clear hPc hDc hKc
                rcases hw_118 with ⟨rfl, hw_118⟩ | ⟨rfl, hw_118⟩
                · have hw_118 : f_di r_114.toInt := hw_118
                  refine lv_if_eq (tgt := 145) hx hb dX10_next_130 (by decide) (fun c_119 => absurd c_119 (by decide)) (fun _ => ?_)
                  refine lv_aload_n hx hb dX10_next_133 rfl (lv_at hl 0 rfl) ?_
                  refine lv_iconst (v := 2) hx hb dX10_next_134 (by decide) ?_
                  refine va_put (D := (dC, dI)) (ci := 10) (v := .int 2) (ty := .int) (C := RX10) (T := TX10) (N := 11) hx hb hts hiX10 tyX10 tyX10_ok nmX10 hown hK hP hD hS 0 rfl rfl 7 (by decide) w__fieldLink_RX10_35_ShellHeap_Tape_sort_I_ (fun _ h9 => h9) rfl (by decide +kernel) rfl rfl (Nat.le_of_ble_eq_true rfl) dX10_next_135 (fun H_120 locs hP hD hS => ?_)
                  obtain ⟨hP, hD⟩ := z_s_0_7 hP hD
                  refine lv_aload_n hx hb dX10_next_138 rfl (lv_at hl 0 rfl) ?_
                  have hPc := hP
                  have hDc := hD
                  have hKc := hK
                  have hFc := z_freeI hD hS hA
                  refine va_callv (va_runV (As := []) (rest := []) ⟨hx, hb, hml, hown, hts⟩ (s_X10_passDigits3 l dC dI H_120.size h0 h1 tt v_4 (.int 1) (.int tf) (.int v_4) (.int te) (.int 2) (.int (-1)) (.int tx) (.int ty) ch1 fh1 hB_tt hF_5 hI_h1 (by first | omega | decide)) (cwV 0 hts gw_s_X10_next3_s_X10_passDigits3_61 rfl rfl rfl (by decide +kernel) ⟨Nat.le_of_ble_eq_true rfl, Nat.le_of_ble_eq_true rfl⟩) ⟨z_blind, va_recv hKc hPc (ci := 10) (q0 := 0) rfl rfl, z_pre hPc hKc hDc⟩ rfl rfl hl.1 rfl (lv_room (Nat.le_of_ble_eq_true rfl)) dX10_next_139 ⟨Nat.le_of_ble_eq_true rfl, Nat.le_of_ble_eq_true rfl⟩) hS (fun q _ h => hFc q h) hFc (fun u t H_121 locs ht hvm hw_123 hB hz1 hk1 hS => ?_)
                  obtain ⟨n_h0_at_124, hp_125, hp_126, hp_127, hP1, hK1, hD1⟩ := hB
                  rw [ht] at hP1
                  have hK1 := va_K.moved hvm.symm hK1
                  obtain ⟨hP, hD⟩ := z_ap_0 (va_join (wr := []) hP hD [0, 1] [] rfl rfl (by decide) (by decide) hk1 hFc hP1 hD1)
                  have hp_126 : v_4.toInt ≤ n_h0_at_124.toInt ∧ n_h0_at_124.toInt ≤ tt.toInt := hp_126
                  have hp_127 : f_run f_di fh1 tt.toInt v_4.toInt n_h0_at_124.toInt := hp_127
                  clear hPc hDc hKc
                  refine lv_goto (tgt := 154) hx hb dX10_next_142 (by decide) ?_
                  refine lv_aload_n hx hb dX10_next_154 rfl (lv_at hl 0 rfl) ?_
                  refine lv_aload_n hx hb dX10_next_155 rfl (lv_at hl 0 rfl) ?_
                  refine va_get (D := (dC, dI)) (ci := 10) (v := .int n_h0_at_124) (C := RX10) (T := TX10) (N := 11) hx hb hts hiX10 hown hK hP 0 rfl rfl 2 (by decide) w__fieldLink_RX10_19_ShellHeap_Tape_at_I_ (fun _ h9 => h9) rfl dX10_next_156 ?_
                  refine va_put (D := (dC, dI)) (ci := 10) (v := .int n_h0_at_124) (ty := .int) (C := RX10) (T := TX10) (N := 11) hx hb hts hiX10 tyX10 tyX10_ok nmX10 hown hK hP hD hS 0 rfl rfl 6 (by decide) w__fieldLink_RX10_32_ShellHeap_Tape_end_I_ (fun _ h9 => h9) rfl (by decide +kernel) rfl rfl (Nat.le_of_ble_eq_true rfl) dX10_next_159 (fun H_128 locs hP hD hS => ?_)
                  obtain ⟨hP, hD⟩ := z_s_0_6 hP hD
                  refine z_backQ hQQ ?_
                  have hP9 := hP
                  have hD9 := hD
                  have hK9 := hK.sub (tys' := []) [] rfl
                  refine W.widen (k := 0) (n := 0) (Nat.le_of_ble_eq_true rfl) (Nat.le_of_ble_eq_true rfl) ?_
                  exact W.vret hx hb hr (fun t ht hW => ⟨⟨(), rfl, trivial, ⟨n_h0_at_124, v_4, n_h0_at_124, 2, (-1), hp_125, hF_5, hp_125, (show f_run f_bl fh1 tt.toInt ta.toInt v_4.toInt from hrn), (show f_C fh1 tt.toInt (2 : Int) (-1 : Int) v_4.toInt n_h0_at_124.toInt from f_C_n hrn (by omega) (f_atb (hw_115.2.1 (by omega) (by omega)) hw_118) rfl rfl hp_127), (show n_h0_at_124.toInt = n_h0_at_124.toInt ∧ n_h0_at_124.toInt ≤ tt.toInt ∧ v_4.toInt ≤ n_h0_at_124.toInt by omega), (show f_pg (2 : Int) v_4.toInt n_h0_at_124.toInt from fun h9 => by have hq9 := f_run_pos hp_127 (by omega) (f_atb (hw_115.2.1 (by omega) (by omega)) hw_118); omega), by rw [ht]; exact hP9, va_K.moved hW.alike hK9, hD9⟩⟩, hS.F ht⟩) hS.2.2 dX10_next_162
                · have hw_118 : ¬ f_di r_114.toInt := hw_118
                  refine lv_if_eq (tgt := 145) hx hb dX10_next_130 (by decide) (fun _ => ?_) (fun c_129 => absurd (by decide) c_129)
                  refine lv_aload_n hx hb dX10_next_145 rfl (lv_at hl 0 rfl) ?_
                  refine lv_iconst (v := 3) hx hb dX10_next_146 (by decide) ?_
                  refine va_put (D := (dC, dI)) (ci := 10) (v := .int 3) (ty := .int) (C := RX10) (T := TX10) (N := 11) hx hb hts hiX10 tyX10 tyX10_ok nmX10 hown hK hP hD hS 0 rfl rfl 7 (by decide) w__fieldLink_RX10_35_ShellHeap_Tape_sort_I_ (fun _ h9 => h9) rfl (by decide +kernel) rfl rfl (Nat.le_of_ble_eq_true rfl) dX10_next_147 (fun H_130 locs hP hD hS => ?_)
                  obtain ⟨hP, hD⟩ := z_s_0_7 hP hD
                  refine lv_aload_n hx hb dX10_next_150 rfl (lv_at hl 0 rfl) ?_
                  have hPc := hP
                  have hDc := hD
                  have hKc := hK
                  have hFc := z_freeI hD hS hA
                  refine va_callv (va_runV (As := []) (rest := []) ⟨hx, hb, hml, hown, hts⟩ (s_X10_passSign3 l dC dI H_130.size h0 h1 tt v_4 (.int 1) (.int tf) (.int v_4) (.int te) (.int 3) (-1) (.int tx) (.int ty) ch1 fh1 hB_tt hF_5 hI_h1 (by first | omega | decide)) (cwV 0 hts gw_s_X10_next3_s_X10_passSign3_67 rfl rfl rfl (by decide +kernel) ⟨Nat.le_of_ble_eq_true rfl, Nat.le_of_ble_eq_true rfl⟩) ⟨z_blind, va_recv hKc hPc (ci := 10) (q0 := 0) rfl rfl, z_pre hPc hKc hDc⟩ rfl rfl hl.1 rfl (lv_room (Nat.le_of_ble_eq_true rfl)) dX10_next_151 ⟨Nat.le_of_ble_eq_true rfl, Nat.le_of_ble_eq_true rfl⟩) hS (fun q _ h => hFc q h) hFc (fun u t H_131 locs ht hvm hw_133 hB hz1 hk1 hS => ?_)
                  obtain ⟨n_h0_at_134, n_h0_sign_135, hp_136, hp_137, hp_138, hP1, hK1, hD1⟩ := hB
                  rw [ht] at hP1
                  have hK1 := va_K.moved hvm.symm hK1
                  obtain ⟨hP, hD⟩ := z_ap_0 (va_join (wr := []) hP hD [0, 1] [] rfl rfl (by decide) (by decide) hk1 hFc hP1 hD1)
                  have hp_137 : v_4.toInt < n_h0_at_134.toInt ∧ n_h0_at_134.toInt ≤ tt.toInt := hp_137
                  have hp_138 : f_sC (fh1 v_4.toNatClampNeg).toInt n_h0_sign_135.toInt v_4.toInt n_h0_at_134.toInt := hp_138
                  clear hPc hDc hKc
                  refine lv_aload_n hx hb dX10_next_154 rfl (lv_at hl 0 rfl) ?_
                  refine lv_aload_n hx hb dX10_next_155 rfl (lv_at hl 0 rfl) ?_
                  refine va_get (D := (dC, dI)) (ci := 10) (v := .int n_h0_at_134) (C := RX10) (T := TX10) (N := 11) hx hb hts hiX10 hown hK hP 0 rfl rfl 2 (by decide) w__fieldLink_RX10_19_ShellHeap_Tape_at_I_ (fun _ h9 => h9) rfl dX10_next_156 ?_
                  refine va_put (D := (dC, dI)) (ci := 10) (v := .int n_h0_at_134) (ty := .int) (C := RX10) (T := TX10) (N := 11) hx hb hts hiX10 tyX10 tyX10_ok nmX10 hown hK hP hD hS 0 rfl rfl 6 (by decide) w__fieldLink_RX10_32_ShellHeap_Tape_end_I_ (fun _ h9 => h9) rfl (by decide +kernel) rfl rfl (Nat.le_of_ble_eq_true rfl) dX10_next_159 (fun H_139 locs hP hD hS => ?_)
                  obtain ⟨hP, hD⟩ := z_s_0_6 hP hD
                  refine z_backQ hQQ ?_
                  have hP9 := hP
                  have hD9 := hD
                  have hK9 := hK.sub (tys' := []) [] rfl
                  refine W.widen (k := 0) (n := 0) (Nat.le_of_ble_eq_true rfl) (Nat.le_of_ble_eq_true rfl) ?_
                  exact W.vret hx hb hr (fun t ht hW => ⟨⟨(), rfl, trivial, ⟨n_h0_at_134, v_4, n_h0_at_134, 3, n_h0_sign_135, hp_136, hF_5, hp_136, (show f_run f_bl fh1 tt.toInt ta.toInt v_4.toInt from hrn), (show f_C fh1 tt.toInt (3 : Int) n_h0_sign_135.toInt v_4.toInt n_h0_at_134.toInt from f_C_s hrn (by omega) (f_atn (hw_90.2.1 (by omega) (by omega)) hw_93) (f_atn (hw_115.2.1 (by omega) (by omega)) hw_118) rfl hp_138), (show n_h0_at_134.toInt = n_h0_at_134.toInt ∧ n_h0_at_134.toInt ≤ tt.toInt ∧ v_4.toInt ≤ n_h0_at_134.toInt by omega), (show f_pg (3 : Int) v_4.toInt n_h0_at_134.toInt from fun h9 => by omega), by rw [ht]; exact hP9, va_K.moved hW.alike hK9, hD9⟩⟩, hS.F ht⟩) hS.2.2 dX10_next_162
            · have k_140 : (v_4).toInt ≥ (tt).toInt := z_nlt c_86
              refine lv_aload_n hx hb dX10_next_74 rfl (lv_at hl 0 rfl) ?_
              refine lv_iconst (v := 0) hx hb dX10_next_75 (by decide) ?_
              refine va_put (D := (dC, dI)) (ci := 10) (v := .int 0) (ty := .int) (C := RX10) (T := TX10) (N := 11) hx hb hts hiX10 tyX10 tyX10_ok nmX10 hown hK hP hD hS 0 rfl rfl 7 (by decide) w__fieldLink_RX10_35_ShellHeap_Tape_sort_I_ (fun _ h9 => h9) rfl (by decide +kernel) rfl rfl (Nat.le_of_ble_eq_true rfl) dX10_next_76 (fun H_141 locs hP hD hS => ?_)
              obtain ⟨hP, hD⟩ := z_s_0_7 hP hD
              refine lv_goto (tgt := 154) hx hb dX10_next_79 (by decide) ?_
              refine lv_aload_n hx hb dX10_next_154 rfl (lv_at hl 0 rfl) ?_
              refine lv_aload_n hx hb dX10_next_155 rfl (lv_at hl 0 rfl) ?_
              refine va_get (D := (dC, dI)) (ci := 10) (v := .int v_4) (C := RX10) (T := TX10) (N := 11) hx hb hts hiX10 hown hK hP 0 rfl rfl 2 (by decide) w__fieldLink_RX10_19_ShellHeap_Tape_at_I_ (fun _ h9 => h9) rfl dX10_next_156 ?_
              refine va_put (D := (dC, dI)) (ci := 10) (v := .int v_4) (ty := .int) (C := RX10) (T := TX10) (N := 11) hx hb hts hiX10 tyX10 tyX10_ok nmX10 hown hK hP hD hS 0 rfl rfl 6 (by decide) w__fieldLink_RX10_32_ShellHeap_Tape_end_I_ (fun _ h9 => h9) rfl (by decide +kernel) rfl rfl (Nat.le_of_ble_eq_true rfl) dX10_next_159 (fun H_142 locs hP hD hS => ?_)
              obtain ⟨hP, hD⟩ := z_s_0_6 hP hD
              refine z_backQ hQQ ?_
              have hP9 := hP
              have hD9 := hD
              have hK9 := hK.sub (tys' := []) [] rfl
              refine W.widen (k := 0) (n := 0) (Nat.le_of_ble_eq_true rfl) (Nat.le_of_ble_eq_true rfl) ?_
              exact W.vret hx hb hr (fun t ht hW => ⟨⟨(), rfl, trivial, ⟨v_4, v_4, v_4, 0, (-1), hF_5, hF_5, hF_5, (show f_run f_bl fh1 tt.toInt ta.toInt v_4.toInt from hrn), (show f_C fh1 tt.toInt (0 : Int) (-1 : Int) v_4.toInt v_4.toInt from f_C_e hrn (by omega) rfl rfl rfl), (show v_4.toInt = v_4.toInt ∧ v_4.toInt ≤ tt.toInt ∧ v_4.toInt ≤ v_4.toInt by omega), (show f_pg (0 : Int) v_4.toInt v_4.toInt from fun h9 => by omega), by rw [ht]; exact hP9, va_K.moved hW.alike hK9, hD9⟩⟩, hS.F ht⟩) hS.2.2 dX10_next_162
          · have k_143 : (r_80).toInt = (32 : Int) := z_eq c_82
            obtain rfl : r_80 = 32 := z_eq' (show (r_80).toInt = (32 : Int) by omega)
            refine lv_aload_n hx hb dX10_next_37 rfl (lv_at hl 0 rfl) ?_
            refine lv_dup hx hb dX10_next_38 rfl ?_
            refine va_get (D := (dC, dI)) (ci := 10) (v := .int v_4) (C := RX10) (T := TX10) (N := 11) hx hb hts hiX10 hown hK hP 0 rfl rfl 2 (by decide) w__fieldLink_RX10_19_ShellHeap_Tape_at_I_ (fun _ h9 => h9) rfl dX10_next_39 ?_
            refine lv_iconst (v := 1) hx hb dX10_next_42 (by decide) ?_
            refine lv_iadd hx hb dX10_next_43 ?_
            refine lv_topi (fun z_145 ez_145 => ?_)
            have kz_145 : (z_145).toInt = (v_4).toInt + (1 : Int) := by rw [ez_145]; exact z_add (a := (v_4).toInt) (b := (1 : Int)) rfl rfl (z_al hF_5.1 (by decide)) (z_ah hF_5.2 (by decide))
            refine va_put (D := (dC, dI)) (ci := 10) (v := .int z_145) (ty := .int) (C := RX10) (T := TX10) (N := 11) hx hb hts hiX10 tyX10 tyX10_ok nmX10 hown hK hP hD hS 0 rfl rfl 2 (by decide) w__fieldLink_RX10_19_ShellHeap_Tape_at_I_ (fun _ h9 => h9) rfl (by decide +kernel) rfl rfl (Nat.le_of_ble_eq_true rfl) dX10_next_44 (fun H_146 locs hP hD hS => ?_)
            obtain ⟨hP, hD⟩ := z_s_0_2 hP hD
            refine lv_goto (tgt := 0) hx hb dX10_next_47 (by decide) ?_
            exact ih_3 z_145 _ _ _ (show (701 - (z_145).toInt).toNat < n_2 by omega) (show ((0 : Int) ≤ (z_145).toInt ∧ (z_145).toInt ≤ (700 : Int)) by omega) (show f_pre f_bl fh1 (tt).toInt (ta).toInt (z_145).toInt from f_pre1 (i := v_4) hF_6 (by omega) (by omega) (f_atb (hw_81.2.1 (by omega) (by omega)) (by first | (unfold f_bl; omega) | (unfold f_bl; decide))) (by omega)) (show (ta).toInt ≤ (z_145).toInt ∧ (z_145).toInt ≤ (tt).toInt by omega) hP hD hS (lv_sub hl [0] rfl)
  exact loop_1 _ ta _ _ _ (Nat.lt_succ_self _) (show ((0 : Int) ≤ (ta).toInt ∧ (ta).toInt ≤ (700 : Int)) by omega) (show f_pre f_bl fh1 (tt).toInt (ta).toInt (ta).toInt from f_pre0 (by omega)) (show (ta).toInt ≤ (ta).toInt ∧ (ta).toInt ≤ (tt).toInt by omega) hP hD hS hl
def u_s_X10_numberFrom3 : List Cond := .code yX10_numberFrom cX10_numberFrom 4 (some .int) :: ([.fieldLink RX10 32 "ShellHeap$Tape" "end" "I", .methodLink RX10 50 yX10_byteAt, .instanceMethod yX10_byteAt, .selects RX10 yX10_byteAt yX10_byteAt, .initialized RX10, .constant RX10 83 (1000000), .methodLink RX10 84 Lib.Math.min.name, .static Lib.Math.min.name, .initialized "java/lang/Math", .code Lib.Math.min.name Lib.Math.min.code 2 (some .int)] ++ (wsX100 ++ (u_s_X10_byteAt4 ++ [])))
theorem gd_s_X10_numberFrom3 : z_gd u_s_X10_numberFrom3 := z_gdc (by decide +kernel) (z_gda gdX10 (z_gda gd_s_X10_byteAt4 (z_gd0)))
set_option maxRecDepth 20000 in
theorem gw_s_X10_numberFrom3_s_X10_byteAt4_50 : GoodIn u_s_X10_numberFrom3 (wsV RX10 50 RX10 yX10_byteAt u_s_X10_byteAt4) := z_gV (z_gr _ [2, 3, 4, 5] rfl (by decide +kernel)) (fun w h => ⟨z_mc (z_mr (z_mr (z_ml h))), gd_s_X10_byteAt4 w h⟩)
set_option maxHeartbeats 4000000 in
set_option maxRecDepth 100000 in
theorem s_X10_numberFrom3 (l : Launch) (dC : Nat → ClassId) (dI : Nat → Nat → Nat) (sz : Nat) (h0 : Nat) (p1 : Int32) (h1 : Nat) (tt : Int32) (h0_2 : Value) (h0_3 : Value) (h0_4 : Value) (h0_5 : Value) (te : Int32) (h0_7 : Value) (h0_8 : Value) (h0_9 : Value) (h0_10 : Value) (ch1 : ClassId) (fh1 : Nat → Int32) (hB_tt : ((0 : Int) ≤ (tt).toInt ∧ (tt).toInt ≤ (700 : Int))) (hB_te : ((0 : Int) ≤ (te).toInt ∧ (te).toInt ≤ (700 : Int))) (hB_p1 : ((0 : Int) ≤ (p1).toInt ∧ (p1).toInt ≤ (701 : Int))) (hI_h1 : ∀ j : Nat, ((0 : Int) ≤ (fh1 j).toInt ∧ (fh1 j).toInt ≤ (255 : Int))) (hdg : f_pre f_di fh1 tt.toInt p1.toInt te.toInt) (het : te.toInt ≤ tt.toInt) : Met l yX10_numberFrom u_s_X10_numberFrom3 ({ frames := 1, cells := 0, slots := 0, locals := 21 }) (va_Pc [.ref h0, .int p1] (z_C (dC, dI) vwCl [(h0, .inr (10, [.ref h1, .int tt, h0_2, h0_3, h0_4, h0_5, .int te, h0_7, h0_8, h0_9, h0_10])), (h1, .inl (ch1, 700, .inl fh1))] [(ch1, .int)] sz)) (va_Qi (fun (r : Int32) (_ : Unit) => ((0 : Int) ≤ (r).toInt ∧ (r).toInt ≤ (1000000 : Int)) ∧ f_v (r).toInt = f_v (f_nm fh1 p1.toInt te.toInt)) (fun (_ : Unit) (_ : State) => True) (va_A [] sz)) 0 0 (va_A [] sz) := by
  refine Met.ofW (cc := cX10_numberFrom) (maxL := 4) (ret := (some .int)) (by decide) rfl ?_
  intro p e s m args below meth c s₁ B hml hv
  obtain ⟨rfl, hsz, hP, hK, hD0⟩ := hv
  have hx := B.exec
  have hb := B.bytes
  have hr := B.returns
  have hts := atoms_spec (ws := u_s_X10_numberFrom3) B.pre
  have hown : s.vm.findClass RX10 = some m.cls := findClass_of_methodNamed B.named
  have hlocks := B.notSynchronized
  subst hsz
  have hD := hD0
  generalize hAe : va_A [] s.heap.size = A
  have hA : ∀ q : Nat, s.heap.size ≤ q → A q := fun q h => by rw [← hAe]; exact Or.inr h
  have hS : va_S A s.heap s.heap [] := va_S.rf
  have hP : va_P (dC, dI) vwCl [(h0, .inr (10, [.ref h1, .int tt, h0_2, h0_3, h0_4, h0_5, .int te, h0_7, h0_8, h0_9, h0_10])), (h1, .inl (ch1, 700, .inl fh1))] s.heap := hP
  have w__fieldLink_RX10_32_ShellHeap_Tape_end_I_ := hts (.fieldLink RX10 32 "ShellHeap$Tape" "end" "I") (z_mc (z_ml z_m0))
  have hiX10 := show ∀ w ∈ u_ws RX10 TX10 11, w ∈ u_s_X10_numberFrom3 from fun w h => z_mc (z_mr (z_ml h))
  have w__constant_RX10_83_1000000_ := hts (.constant RX10 83 (1000000)) (z_mc (z_ml z_m5))
  have w__methodLink_RX10_84_Lib_Math_min_name := hts (.methodLink RX10 84 Lib.Math.min.name) (z_mc (z_ml z_m6))
  have w__static_Lib_Math_min_name := hts (.static Lib.Math.min.name) (z_mc (z_ml z_m7))
  have w__initialized_java_lang_Math_ := hts (.initialized "java/lang/Math") (z_mc (z_ml z_m8))
  have w__code_Lib_Math_min_name_Lib_Math_min_code_2_some_int_ := hts (.code Lib.Math.min.name Lib.Math.min.code 2 (some .int)) (z_mc (z_ml z_m9))
  have hl := lv_entry ([.ref h0, .int p1]) (n := 4) (Nat.le_of_ble_eq_true rfl)
  rw [lg_entry_eq]
  generalize (lg_sl ([.ref h0, .int p1]) ++ List.replicate (4 - (lg_sl ([.ref h0, .int p1])).length) Slot.unset).toArray = ls at hl ⊢
  have hl : lv_has ls 4 [(0, .ref h0), (1, .int p1)] := hl
  refine z_nameQ (fun QQ hQQ => ?_)
  have hp0 := hdg.1
  have hpe := hdg.2.1
  refine lv_iconst (v := 0) hx hb dX10_numberFrom_0 (by decide) ?_
  refine lv_istore_n (lv' := [(2, .int 0), (0, .ref h0), (1, .int p1)]) hx hb dX10_numberFrom_1 rfl hl (by decide) rfl (fun ls hl => ?_)
  refine lv_iload_n hx hb dX10_numberFrom_2 rfl (lv_at hl 2 rfl) ?_
  refine lv_istore_n (lv' := [(3, .int p1), (2, .int 0), (0, .ref h0), (1, .int p1)]) hx hb dX10_numberFrom_3 rfl hl (by decide) rfl (fun ls hl => ?_)
  have loop_1 : ∀ (n_2 : Nat) (n_4 : Int32) (i_5 : Int32) (H : Heap) (locs : List Loc) (ls : Array Slot), (702 - (i_5).toInt).toNat < n_2 → (((0 : Int) ≤ (n_4).toInt ∧ (n_4).toInt ≤ (1000000 : Int))) → (((0 : Int) ≤ (i_5).toInt ∧ (i_5).toInt ≤ (701 : Int))) → (f_v (n_4).toInt = f_v (f_nm fh1 (p1).toInt (i_5).toInt)) → ((p1).toInt ≤ (i_5).toInt ∧ (i_5).toInt ≤ (te).toInt) → va_P (dC, dI) vwCl [(h0, .inr (10, [.ref h1, .int tt, h0_2, h0_3, h0_4, h0_5, .int te, h0_7, h0_8, h0_9, h0_10])), (h1, .inl (ch1, 700, .inl fh1))] H → va_D (fun _ => True) [(h0, .inr (10, [.ref h1, .int tt, h0_2, h0_3, h0_4, h0_5, .int te, h0_7, h0_8, h0_9, h0_10])), (h1, .inl (ch1, 700, .inl fh1))] → va_S A s.heap H locs → lv_has ls 4 [(3, .int i_5), (2, .int n_4), (0, .ref h0), (1, .int p1)] → W p l e ({ frames := 1, cells := 0, slots := 0, locals := 21 } : Room) s m ([.ref h0, .int p1] : List Value).toArray below meth c H locs 0 0 QQ (F0 m 4 ls []) := by
    intro n_2
    induction n_2 with
    | zero => intro n_4 i_5 H locs ls hm; exact absurd hm (Nat.not_lt_zero _)
    | succ n_2 ih_3 =>
      intro n_4 i_5 H locs ls hm hF_6 hF_7 hF_8 hF_9 hP hD hS hl
      refine lv_iload_n hx hb dX10_numberFrom_4 rfl (lv_at hl 0 rfl) ?_
      refine lv_aload_n hx hb dX10_numberFrom_5 rfl (lv_at hl 2 rfl) ?_
      refine va_get (D := (dC, dI)) (ci := 10) (v := .int te) (C := RX10) (T := TX10) (N := 11) hx hb hts hiX10 hown hK hP 0 rfl rfl 6 (by decide) w__fieldLink_RX10_32_ShellHeap_Tape_end_I_ (fun _ h9 => h9) rfl dX10_numberFrom_6 ?_
      refine lv_icmp_ge (tgt := 37) hx hb dX10_numberFrom_9 (by decide) (fun c_10 => ?_) (fun c_10 => ?_)
      · have k_11 : (te).toInt ≤ (i_5).toInt := z_le c_10
        refine lv_iload_n hx hb dX10_numberFrom_37 rfl (lv_at hl 1 rfl) ?_
        refine z_backQ hQQ ?_
        refine W.widen (k := 0) (n := 0) (Nat.le_of_ble_eq_true rfl) (Nat.le_of_ble_eq_true rfl) ?_
        exact W.iret (v := n_4) hx hb hr (fun t ht hW => ⟨⟨n_4, (), rfl, (show ((0 : Int) ≤ (n_4).toInt ∧ (n_4).toInt ≤ (1000000 : Int)) ∧ f_v (n_4).toInt = f_v (f_nm fh1 p1.toInt te.toInt) from ⟨by omega, by have hq9 := hF_8; rw [show (i_5).toInt = (te).toInt by omega] at hq9; exact hq9⟩), trivial⟩, hS.F ht⟩) hS.2.2 dX10_numberFrom_38
      · have k_12 : (te).toInt > (i_5).toInt := z_nle c_10
        refine lv_iload_n hx hb dX10_numberFrom_12 rfl (lv_at hl 1 rfl) ?_
        refine lv_bipush (v := 10) hx hb dX10_numberFrom_13 (by decide) ?_
        refine lv_imul hx hb dX10_numberFrom_15 ?_
        refine lv_topi (fun z_13 ez_13 => ?_)
        have kz_13 : (z_13).toInt = (n_4).toInt * (10 : Int) := by rw [ez_13]; exact z_mul (a := (n_4).toInt) (b := (10 : Int)) rfl rfl (by omega) (by omega)
        refine lv_aload_n hx hb dX10_numberFrom_16 rfl (lv_at hl 2 rfl) ?_
        refine lv_iload_n hx hb dX10_numberFrom_17 rfl (lv_at hl 0 rfl) ?_
        have hPc := hP
        have hDc := hD
        have hKc := hK
        have hFc := va_free (ws := []) (wc := []) (z_D0 _) hS hA [] rfl
        refine va_calli (va_runV (As := [.int i_5]) (rest := [.int z_13]) ⟨hx, hb, hml, hown, hts⟩ (s_X10_byteAt4 l dC dI H.size h0 i_5 h1 tt h0_2 h0_3 h0_4 h0_5 (.int te) h0_7 h0_8 h0_9 h0_10 ch1 fh1 hB_tt hI_h1) (cwV 1 hts gw_s_X10_numberFrom3_s_X10_byteAt4_50 rfl rfl rfl (by decide +kernel) ⟨Nat.le_of_ble_eq_true rfl, Nat.le_of_ble_eq_true rfl⟩) ⟨z_blind, va_recv hKc hPc (ci := 10) (q0 := 0) rfl rfl, z_pre hPc hKc hDc⟩ rfl rfl hl.1 rfl (lv_room (Nat.le_of_ble_eq_true rfl)) dX10_numberFrom_18 ⟨Nat.le_of_ble_eq_true rfl, Nat.le_of_ble_eq_true rfl⟩) hS (fun q _ h => hFc q h) hFc (fun r_15 u t H_14 locs ht hvm hw_16 hB hz1 hk1 hS => ?_)
        replace hP := z_pure hP hk1
        clear hPc hDc hKc
        have kd_r_15 := f_dig hdg (i := i_5) (by omega) (by omega) (by omega) (hw_16.2.1 (by omega) (by omega))
        refine lv_iadd hx hb dX10_numberFrom_21 ?_
        refine lv_topi (fun z_17 ez_17 => ?_)
        have kz_17 : (z_17).toInt = (z_13).toInt + (r_15).toInt := by rw [ez_17]; exact z_add (a := (z_13).toInt) (b := (r_15).toInt) rfl rfl (by omega) (by omega)
        refine lv_bipush (v := 48) hx hb dX10_numberFrom_22 (by decide) ?_
        refine lv_isub hx hb dX10_numberFrom_24 ?_
        refine lv_topi (fun z_18 ez_18 => ?_)
        have kr_z_18_z_17 := z_rng z_17
        have kz_18 : (z_18).toInt = (z_17).toInt - (48 : Int) := by rw [ez_18]; exact z_sub (a := (z_17).toInt) (b := (48 : Int)) rfl rfl (by omega) (by omega)
        refine lv_ldc (v := 1000000) hx hb hown w__constant_RX10_83_1000000_ dX10_numberFrom_25 ?_
        refine va_mmin hx hb (hml.trans hl.1.symm) hown w__methodLink_RX10_84_Lib_Math_min_name w__static_Lib_Math_min_name w__initialized_java_lang_Math_ w__code_Lib_Math_min_name_Lib_Math_min_code_2_some_int_ (Nat.le_of_ble_eq_true rfl) (Nat.le_of_ble_eq_true rfl) (Nat.le_of_ble_eq_true rfl) (Nat.le_of_ble_eq_true rfl) dX10_numberFrom_27 ?_
        refine lv_topi (fun z_19 ez_19 => ?_)
        have kz_19 : ((z_19).toInt = (z_18).toInt ∨ (z_19).toInt = (1000000 : Int)) ∧ (z_19).toInt ≤ (z_18).toInt ∧ (z_19).toInt ≤ (1000000 : Int) := z_min ez_19
        refine lv_istore_n (lv' := [(2, .int z_19), (3, .int i_5), (0, .ref h0), (1, .int p1)]) hx hb dX10_numberFrom_30 rfl hl (by decide) rfl (fun ls hl => ?_)
        obtain ⟨z_20, ez_20⟩ : ∃ y : Int32, y = i_5 + 1 := ⟨_, rfl⟩
        have kz_20 : (z_20).toInt = (i_5).toInt + (1 : Int) := by rw [ez_20]; exact z_add (b := 1) rfl rfl (z_al hF_7.1 (by decide)) (z_ah hF_7.2 (by decide))
        refine lv_iinc (v := z_20) (lv' := [(3, .int z_20), (2, .int z_19), (0, .ref h0), (1, .int p1)]) hx hb dX10_numberFrom_31 hl (k := 1) rfl (by rw [ez_20]; rfl) (by decide) rfl (fun ls hl => ?_)
        refine lv_goto (tgt := 4) hx hb dX10_numberFrom_34 (by decide) ?_
        exact ih_3 z_19 z_20 _ _ _ (show (702 - (z_20).toInt).toNat < n_2 by omega) (show ((0 : Int) ≤ (z_19).toInt ∧ (z_19).toInt ≤ (1000000 : Int)) by omega) (show ((0 : Int) ≤ (z_20).toInt ∧ (z_20).toInt ≤ (701 : Int)) by omega) (show f_v (z_19).toInt = f_v (f_nm fh1 (p1).toInt (z_20).toInt) from f_v_s (i := i_5) hdg hF_8 (by omega) (by omega) (by omega) (hw_16.2.1 (by omega) (by omega)) (by omega) (by omega)) (show (p1).toInt ≤ (z_20).toInt ∧ (z_20).toInt ≤ (te).toInt by omega) hP hD hS (lv_sub hl [0, 1, 2, 3] rfl)
  exact loop_1 _ 0 p1 _ _ _ (Nat.lt_succ_self _) (show ((0 : Int) ≤ (0 : Int) ∧ (0 : Int) ≤ (1000000 : Int)) by omega) (show ((0 : Int) ≤ (p1).toInt ∧ (p1).toInt ≤ (701 : Int)) by omega) (show f_v (0 : Int) = f_v (f_nm fh1 (p1).toInt (p1).toInt) from by rw [f_nm0]) (show (p1).toInt ≤ (p1).toInt ∧ (p1).toInt ≤ (te).toInt by omega) hP hD hS hl
def u_s_X10_numberBehind_1 : List Cond := .code yX10_numberBehind cX10_numberBehind 2 (some .int) :: ([.fieldLink RX10 35 "ShellHeap$Tape" "sort" "I", .fieldLink RX10 32 "ShellHeap$Tape" "end" "I", .fieldLink RX10 29 "ShellHeap$Tape" "start" "I", .methodLink RX10 50 yX10_byteAt, .instanceMethod yX10_byteAt, .selects RX10 yX10_byteAt yX10_byteAt, .initialized RX10, .methodLink RX10 64 yX10_isDigit, .static yX10_isDigit, .methodLink RX10 80 yX10_numberFrom, .instanceMethod yX10_numberFrom, .selects RX10 yX10_numberFrom yX10_numberFrom] ++ (wsX100 ++ (u_s_X10_byteAt4 ++ (u_s_X10_isDigit3 ++ (u_s_X10_numberFrom3 ++ [])))))
theorem gd_s_X10_numberBehind_1 : z_gd u_s_X10_numberBehind_1 := z_gdc (by decide +kernel) (z_gda gdX10 (z_gda gd_s_X10_byteAt4 (z_gda gd_s_X10_isDigit3 (z_gda gd_s_X10_numberFrom3 (z_gd0)))))
set_option maxRecDepth 20000 in
theorem gw_s_X10_numberBehind_1_s_X10_byteAt4_50 : GoodIn u_s_X10_numberBehind_1 (wsV RX10 50 RX10 yX10_byteAt u_s_X10_byteAt4) := z_gV (z_gr _ [4, 5, 6, 7] rfl (by decide +kernel)) (fun w h => ⟨z_mc (z_mr (z_mr (z_ml h))), gd_s_X10_byteAt4 w h⟩)
set_option maxRecDepth 20000 in
theorem gw_s_X10_numberBehind_1_s_X10_isDigit3_64 : GoodIn u_s_X10_numberBehind_1 (va_wsS RX10 64 yX10_isDigit u_s_X10_isDigit3) := z_gS (z_gr _ [8, 9, 7] rfl (by decide +kernel)) (fun w h => ⟨z_mc (z_mr (z_mr (z_mr (z_ml h)))), gd_s_X10_isDigit3 w h⟩)
set_option maxRecDepth 20000 in
theorem gw_s_X10_numberBehind_1_s_X10_numberFrom3_80 : GoodIn u_s_X10_numberBehind_1 (wsV RX10 80 RX10 yX10_numberFrom u_s_X10_numberFrom3) := z_gV (z_gr _ [10, 11, 12, 7] rfl (by decide +kernel)) (fun w h => ⟨z_mc (z_mr (z_mr (z_mr (z_mr (z_ml h))))), gd_s_X10_numberFrom3 w h⟩)
set_option maxHeartbeats 4000000 in
set_option maxRecDepth 100000 in
theorem s_X10_numberBehind_1 (l : Launch) (dC : Nat → ClassId) (dI : Nat → Nat → Nat) (sz : Nat) (h0 : Nat) (h1 : Nat) (tt : Int32) (h0_2 : Value) (h0_3 : Value) (h0_4 : Value) (ts : Int32) (te : Int32) (to : Int32) (tg : Int32) (h0_9 : Value) (h0_10 : Value) (ch1 : ClassId) (fh1 : Nat → Int32) (hB_tt : ((0 : Int) ≤ (tt).toInt ∧ (tt).toInt ≤ (700 : Int))) (hB_ts : ((0 : Int) ≤ (ts).toInt ∧ (ts).toInt ≤ (700 : Int))) (hB_te : ((0 : Int) ≤ (te).toInt ∧ (te).toInt ≤ (700 : Int))) (hI_h1 : ∀ j : Nat, ((0 : Int) ≤ (fh1 j).toInt ∧ (fh1 j).toInt ≤ (255 : Int))) (hC : f_C fh1 tt.toInt to.toInt tg.toInt ts.toInt te.toInt) (het : te.toInt ≤ tt.toInt) : Met l yX10_numberBehind u_s_X10_numberBehind_1 ({ frames := 2, cells := 0, slots := 0, locals := 44 }) (va_Pc [.ref h0, .int 107] (z_C (dC, dI) vwCl [(h0, .inr (10, [.ref h1, .int tt, h0_2, h0_3, h0_4, .int ts, .int te, .int to, .int tg, h0_9, h0_10])), (h1, .inl (ch1, 700, .inl fh1))] [(ch1, .int)] sz)) (va_Qi (fun (r : Int32) (_ : Unit) => ((-1 : Int) ≤ (r).toInt ∧ (r).toInt ≤ (1000000 : Int)) ∧ f_nbA fh1 tt.toInt ts.toInt te.toInt 1 (r).toInt) (fun (_ : Unit) (_ : State) => True) (va_A [] sz)) 0 0 (va_A [] sz) := by
  refine Met.ofW (cc := cX10_numberBehind) (maxL := 2) (ret := (some .int)) (by decide) rfl ?_
  intro p e s m args below meth c s₁ B hml hv
  obtain ⟨rfl, hsz, hP, hK, hD0⟩ := hv
  have hx := B.exec
  have hb := B.bytes
  have hr := B.returns
  have hts := atoms_spec (ws := u_s_X10_numberBehind_1) B.pre
  have hown : s.vm.findClass RX10 = some m.cls := findClass_of_methodNamed B.named
  have hlocks := B.notSynchronized
  subst hsz
  have hD := hD0
  generalize hAe : va_A [] s.heap.size = A
  have hA : ∀ q : Nat, s.heap.size ≤ q → A q := fun q h => by rw [← hAe]; exact Or.inr h
  have hS : va_S A s.heap s.heap [] := va_S.rf
  have hP : va_P (dC, dI) vwCl [(h0, .inr (10, [.ref h1, .int tt, h0_2, h0_3, h0_4, .int ts, .int te, .int to, .int tg, h0_9, h0_10])), (h1, .inl (ch1, 700, .inl fh1))] s.heap := hP
  have w__fieldLink_RX10_35_ShellHeap_Tape_sort_I_ := hts (.fieldLink RX10 35 "ShellHeap$Tape" "sort" "I") (z_mc (z_ml z_m0))
  have hiX10 := show ∀ w ∈ u_ws RX10 TX10 11, w ∈ u_s_X10_numberBehind_1 from fun w h => z_mc (z_mr (z_ml h))
  have w__fieldLink_RX10_32_ShellHeap_Tape_end_I_ := hts (.fieldLink RX10 32 "ShellHeap$Tape" "end" "I") (z_mc (z_ml z_m1))
  have w__fieldLink_RX10_29_ShellHeap_Tape_start_I_ := hts (.fieldLink RX10 29 "ShellHeap$Tape" "start" "I") (z_mc (z_ml z_m2))
  have hl := lv_entry ([.ref h0, .int 107]) (n := 2) (Nat.le_of_ble_eq_true rfl)
  rw [lg_entry_eq]
  generalize (lg_sl ([.ref h0, .int 107]) ++ List.replicate (2 - (lg_sl ([.ref h0, .int 107])).length) Slot.unset).toArray = ls at hl ⊢
  have hl : lv_has ls 2 [(0, .ref h0), (1, .int 107)] := hl
  refine lv_aload_n hx hb dX10_numberBehind_0 rfl (lv_at hl 0 rfl) ?_
  refine va_get (D := (dC, dI)) (ci := 10) (v := .int to) (C := RX10) (T := TX10) (N := 11) hx hb hts hiX10 hown hK hP 0 rfl rfl 7 (by decide) w__fieldLink_RX10_35_ShellHeap_Tape_sort_I_ (fun _ h9 => h9) rfl dX10_numberBehind_1 ?_
  refine lv_iconst (v := 1) hx hb dX10_numberBehind_4 (by decide) ?_
  refine lv_icmp_ne (tgt := 49) hx hb dX10_numberBehind_5 (by decide) (fun c_1 => ?_) (fun c_1 => ?_)
  · have k_2 : (to).toInt ≠ (1 : Int) := z_ne c_1
    refine lv_iconst (v := (-1)) hx hb dX10_numberBehind_49 (by decide) ?_
    refine W.widen (k := 0) (n := 0) (Nat.le_of_ble_eq_true rfl) (Nat.le_of_ble_eq_true rfl) ?_
    exact W.iret (v := (-1)) hx hb hr (fun t ht hW => ⟨⟨(-1), (), rfl, (show ((-1 : Int) ≤ (-1 : Int) ∧ (-1 : Int) ≤ (1000000 : Int)) ∧ f_nbA fh1 tt.toInt ts.toInt te.toInt 1 (-1 : Int) from ⟨by decide, Or.inl ⟨rfl, fun k8 v8 b8 ht8 => f_nbn (c := 107) (Or.inl ⟨rfl, rfl⟩) hC (by first | exact Or.inl (by omega) | exact Or.inr (Or.inl (by omega))) ht8⟩⟩), trivial⟩, hS.F ht⟩) hS.2.2 dX10_numberBehind_50
  · have k_3 : (to).toInt = (1 : Int) := z_eq c_1
    refine lv_aload_n hx hb dX10_numberBehind_8 rfl (lv_at hl 0 rfl) ?_
    refine va_get (D := (dC, dI)) (ci := 10) (v := .int te) (C := RX10) (T := TX10) (N := 11) hx hb hts hiX10 hown hK hP 0 rfl rfl 6 (by decide) w__fieldLink_RX10_32_ShellHeap_Tape_end_I_ (fun _ h9 => h9) rfl dX10_numberBehind_9 ?_
    refine lv_aload_n hx hb dX10_numberBehind_12 rfl (lv_at hl 0 rfl) ?_
    refine va_get (D := (dC, dI)) (ci := 10) (v := .int ts) (C := RX10) (T := TX10) (N := 11) hx hb hts hiX10 hown hK hP 0 rfl rfl 5 (by decide) w__fieldLink_RX10_29_ShellHeap_Tape_start_I_ (fun _ h9 => h9) rfl dX10_numberBehind_13 ?_
    refine lv_isub hx hb dX10_numberBehind_16 ?_
    refine lv_topi (fun z_4 ez_4 => ?_)
    have kz_4 : (z_4).toInt = (te).toInt - (ts).toInt := by rw [ez_4]; exact z_sub (a := (te).toInt) (b := (ts).toInt) rfl rfl (by omega) (by omega)
    refine lv_iconst (v := 2) hx hb dX10_numberBehind_17 (by decide) ?_
    refine lv_icmp_lt (tgt := 49) hx hb dX10_numberBehind_18 (by decide) (fun c_5 => ?_) (fun c_5 => ?_)
    · have k_6 : (z_4).toInt < (2 : Int) := z_lt c_5
      refine lv_iconst (v := (-1)) hx hb dX10_numberBehind_49 (by decide) ?_
      refine W.widen (k := 0) (n := 0) (Nat.le_of_ble_eq_true rfl) (Nat.le_of_ble_eq_true rfl) ?_
      exact W.iret (v := (-1)) hx hb hr (fun t ht hW => ⟨⟨(-1), (), rfl, (show ((-1 : Int) ≤ (-1 : Int) ∧ (-1 : Int) ≤ (1000000 : Int)) ∧ f_nbA fh1 tt.toInt ts.toInt te.toInt 1 (-1 : Int) from ⟨by decide, Or.inl ⟨rfl, fun k8 v8 b8 ht8 => f_nbn (c := 107) (Or.inl ⟨rfl, rfl⟩) hC (by first | exact Or.inl (by omega) | exact Or.inr (Or.inl (by omega))) ht8⟩⟩), trivial⟩, hS.F ht⟩) hS.2.2 dX10_numberBehind_50
    · have k_7 : (z_4).toInt ≥ (2 : Int) := z_nlt c_5
      refine lv_aload_n hx hb dX10_numberBehind_21 rfl (lv_at hl 0 rfl) ?_
      refine lv_aload_n hx hb dX10_numberBehind_22 rfl (lv_at hl 0 rfl) ?_
      refine va_get (D := (dC, dI)) (ci := 10) (v := .int ts) (C := RX10) (T := TX10) (N := 11) hx hb hts hiX10 hown hK hP 0 rfl rfl 5 (by decide) w__fieldLink_RX10_29_ShellHeap_Tape_start_I_ (fun _ h9 => h9) rfl dX10_numberBehind_23 ?_
      have hPc := hP
      have hDc := hD
      have hKc := hK
      have hFc := va_free (ws := []) (wc := []) (z_D0 _) hS hA [] rfl
      refine va_calli (va_runV (As := [.int ts]) (rest := []) ⟨hx, hb, hml, hown, hts⟩ (s_X10_byteAt4 l dC dI s.heap.size h0 ts h1 tt h0_2 h0_3 h0_4 (.int ts) (.int te) (.int to) (.int tg) h0_9 h0_10 ch1 fh1 hB_tt hI_h1) (cwV 1 hts gw_s_X10_numberBehind_1_s_X10_byteAt4_50 rfl rfl rfl (by decide +kernel) ⟨Nat.le_of_ble_eq_true rfl, Nat.le_of_ble_eq_true rfl⟩) ⟨z_blind, va_recv hKc hPc (ci := 10) (q0 := 0) rfl rfl, z_pre hPc hKc hDc⟩ rfl rfl hl.1 rfl (lv_room (Nat.le_of_ble_eq_true rfl)) dX10_numberBehind_26 ⟨Nat.le_of_ble_eq_true rfl, Nat.le_of_ble_eq_true rfl⟩) hS (fun q _ h => hFc q h) hFc (fun r_9 u t H_8 locs ht hvm hw_10 hB hz1 hk1 hS => ?_)
      replace hP := z_pure hP hk1
      clear hPc hDc hKc
      refine lv_iload_n hx hb dX10_numberBehind_29 rfl (lv_at hl 1 rfl) ?_
      refine lv_icmp_ne (tgt := 49) hx hb dX10_numberBehind_30 (by decide) (fun c_11 => ?_) (fun c_11 => ?_)
      · have k_12 : (r_9).toInt ≠ (107 : Int) := z_ne c_11
        refine lv_iconst (v := (-1)) hx hb dX10_numberBehind_49 (by decide) ?_
        refine W.widen (k := 0) (n := 0) (Nat.le_of_ble_eq_true rfl) (Nat.le_of_ble_eq_true rfl) ?_
        exact W.iret (v := (-1)) hx hb hr (fun t ht hW => ⟨⟨(-1), (), rfl, (show ((-1 : Int) ≤ (-1 : Int) ∧ (-1 : Int) ≤ (1000000 : Int)) ∧ f_nbA fh1 tt.toInt ts.toInt te.toInt 1 (-1 : Int) from ⟨by decide, Or.inl ⟨rfl, fun k8 v8 b8 ht8 => f_nbn (c := 107) (Or.inl ⟨rfl, rfl⟩) hC (Or.inr (Or.inr (Or.inl (fun q9 => absurd ((congrArg Int32.toInt (hw_10.2.1 (by omega) (by omega))).trans q9) (by omega))))) ht8⟩⟩), trivial⟩, hS.F ht⟩) hS.2.2 dX10_numberBehind_50
      · have k_13 : (r_9).toInt = (107 : Int) := z_eq c_11
        obtain rfl : r_9 = 107 := z_eq' (show (r_9).toInt = (107 : Int) by omega)
        refine lv_aload_n hx hb dX10_numberBehind_33 rfl (lv_at hl 0 rfl) ?_
        refine lv_aload_n hx hb dX10_numberBehind_34 rfl (lv_at hl 0 rfl) ?_
        refine va_get (D := (dC, dI)) (ci := 10) (v := .int ts) (C := RX10) (T := TX10) (N := 11) hx hb hts hiX10 hown hK hP 0 rfl rfl 5 (by decide) w__fieldLink_RX10_29_ShellHeap_Tape_start_I_ (fun _ h9 => h9) rfl dX10_numberBehind_35 ?_
        refine lv_iconst (v := 1) hx hb dX10_numberBehind_38 (by decide) ?_
        refine lv_iadd hx hb dX10_numberBehind_39 ?_
        refine lv_topi (fun z_15 ez_15 => ?_)
        have kz_15 : (z_15).toInt = (ts).toInt + (1 : Int) := by rw [ez_15]; exact z_add (a := (ts).toInt) (b := (1 : Int)) rfl rfl (z_al hB_ts.1 (by decide)) (z_ah hB_ts.2 (by decide))
        have hPc := hP
        have hDc := hD
        have hKc := hK
        have hFc := va_free (ws := []) (wc := []) (z_D0 _) hS hA [] rfl
        refine va_calli (va_runV (As := [.int z_15]) (rest := []) ⟨hx, hb, hml, hown, hts⟩ (s_X10_byteAt4 l dC dI H_8.size h0 z_15 h1 tt h0_2 h0_3 h0_4 (.int ts) (.int te) (.int to) (.int tg) h0_9 h0_10 ch1 fh1 hB_tt hI_h1) (cwV 1 hts gw_s_X10_numberBehind_1_s_X10_byteAt4_50 rfl rfl rfl (by decide +kernel) ⟨Nat.le_of_ble_eq_true rfl, Nat.le_of_ble_eq_true rfl⟩) ⟨z_blind, va_recv hKc hPc (ci := 10) (q0 := 0) rfl rfl, z_pre hPc hKc hDc⟩ rfl rfl hl.1 rfl (lv_room (Nat.le_of_ble_eq_true rfl)) dX10_numberBehind_40 ⟨Nat.le_of_ble_eq_true rfl, Nat.le_of_ble_eq_true rfl⟩) hS (fun q _ h => hFc q h) hFc (fun r_17 u t H_16 locs ht hvm hw_18 hB hz1 hk1 hS => ?_)
        replace hP := z_pure hP hk1
        clear hPc hDc hKc
        obtain ⟨hPc, hDc⟩ := z_sub2 (ws' := []) hP hD [] (by decide) rfl
        have hKc := hK.sub (tys' := []) [] rfl
        have hFc := va_free (ws := []) (wc := []) (z_D0 _) hS hA [] rfl
        refine va_calli (va_runS (As := [.int r_17]) (rest := []) ⟨hx, hb, hml, hown, hts⟩ (s_X10_isDigit3 l dC dI H_16.size r_17) (va_cwS 1 hts gw_s_X10_numberBehind_1_s_X10_isDigit3_64 rfl rfl rfl (by decide +kernel) ⟨Nat.le_of_ble_eq_true rfl, Nat.le_of_ble_eq_true rfl⟩) ⟨z_blind, z_pre hPc hKc hDc⟩ rfl rfl hl.1 rfl (lv_room (Nat.le_of_ble_eq_true rfl)) dX10_numberBehind_43 ⟨Nat.le_of_ble_eq_true rfl, Nat.le_of_ble_eq_true rfl⟩) hS (fun q _ h => hFc q h) hFc (fun r_20 u t H_19 locs ht hvm hw_21 hB hz1 hk1 hS => ?_)
        replace hP := z_pure hP hk1
        clear hPc hDc hKc
        rcases hw_21 with ⟨rfl, hw_21⟩ | ⟨rfl, hw_21⟩
        · have hw_21 : f_di r_17.toInt := hw_21
          refine lv_if_ne (tgt := 51) hx hb dX10_numberBehind_46 (by decide) (fun _ => ?_) (fun c_22 => absurd c_22 (by decide))
          refine lv_aload_n hx hb dX10_numberBehind_51 rfl (lv_at hl 0 rfl) ?_
          refine lv_aload_n hx hb dX10_numberBehind_52 rfl (lv_at hl 0 rfl) ?_
          refine va_get (D := (dC, dI)) (ci := 10) (v := .int ts) (C := RX10) (T := TX10) (N := 11) hx hb hts hiX10 hown hK hP 0 rfl rfl 5 (by decide) w__fieldLink_RX10_29_ShellHeap_Tape_start_I_ (fun _ h9 => h9) rfl dX10_numberBehind_53 ?_
          refine lv_iconst (v := 1) hx hb dX10_numberBehind_56 (by decide) ?_
          refine lv_iadd hx hb dX10_numberBehind_57 ?_
          refine lv_topi (fun z_23 ez_23 => ?_)
          have kz_23 : (z_23).toInt = (ts).toInt + (1 : Int) := by rw [ez_23]; exact z_add (a := (ts).toInt) (b := (1 : Int)) rfl rfl (z_al hB_ts.1 (by decide)) (z_ah hB_ts.2 (by decide))
          have hnb : f_run f_di fh1 (tt).toInt (z_23).toInt (te).toInt ∧ f_tk fh1 (tt).toInt (ts).toInt 1 (f_v (f_nm fh1 (z_23).toInt (te).toInt)) (te).toInt := by
            rw [show (z_23).toInt = (ts).toInt + 1 by omega]
            refine f_nb (Or.inl ⟨rfl, rfl⟩) hC (by omega) (by omega) ?_ ?_
            · exact ((congrArg Int32.toInt (hw_10.2.1 (by omega) (by omega))).symm.trans (by first | omega | decide))
            · rw [show (ts).toInt + 1 = (z_15).toInt by omega]; exact f_atb (hw_18.2.1 (by omega) (by omega)) hw_21
          have hPc := hP
          have hDc := hD
          have hKc := hK
          have hFc := va_free (ws := []) (wc := []) (z_D0 _) hS hA [] rfl
          refine va_calli (va_runV (As := [.int z_23]) (rest := []) ⟨hx, hb, hml, hown, hts⟩ (s_X10_numberFrom3 l dC dI H_19.size h0 z_23 h1 tt h0_2 h0_3 h0_4 (.int ts) te (.int to) (.int tg) h0_9 h0_10 ch1 fh1 hB_tt hB_te (by first | omega | decide) hI_h1 (f_run_pre hnb.1) (by first | omega | decide)) (cwV 1 hts gw_s_X10_numberBehind_1_s_X10_numberFrom3_80 rfl rfl rfl (by decide +kernel) ⟨Nat.le_of_ble_eq_true rfl, Nat.le_of_ble_eq_true rfl⟩) ⟨z_blind, va_recv hKc hPc (ci := 10) (q0 := 0) rfl rfl, z_pre hPc hKc hDc⟩ rfl rfl hl.1 rfl (lv_room (Nat.le_of_ble_eq_true rfl)) dX10_numberBehind_58 ⟨Nat.le_of_ble_eq_true rfl, Nat.le_of_ble_eq_true rfl⟩) hS (fun q _ h => hFc q h) hFc (fun r_25 u t H_24 locs ht hvm hw_26 hB hz1 hk1 hS => ?_)
          replace hP := z_pure hP hk1
          clear hPc hDc hKc
          refine W.widen (k := 0) (n := 0) (Nat.le_of_ble_eq_true rfl) (Nat.le_of_ble_eq_true rfl) ?_
          exact W.iret (v := r_25) hx hb hr (fun t ht hW => ⟨⟨r_25, (), rfl, (show ((-1 : Int) ≤ (r_25).toInt ∧ (r_25).toInt ≤ (1000000 : Int)) ∧ f_nbA fh1 tt.toInt ts.toInt te.toInt 1 (r_25).toInt from ⟨by omega, Or.inr ⟨by omega, by rw [hw_26.2]; exact hnb.2⟩⟩), trivial⟩, hS.F ht⟩) hS.2.2 dX10_numberBehind_61
        · have hw_21 : ¬ f_di r_17.toInt := hw_21
          refine lv_if_ne (tgt := 51) hx hb dX10_numberBehind_46 (by decide) (fun c_27 => absurd c_27 (by decide)) (fun _ => ?_)
          refine lv_iconst (v := (-1)) hx hb dX10_numberBehind_49 (by decide) ?_
          refine W.widen (k := 0) (n := 0) (Nat.le_of_ble_eq_true rfl) (Nat.le_of_ble_eq_true rfl) ?_
          exact W.iret (v := (-1)) hx hb hr (fun t ht hW => ⟨⟨(-1), (), rfl, (show ((-1 : Int) ≤ (-1 : Int) ∧ (-1 : Int) ≤ (1000000 : Int)) ∧ f_nbA fh1 tt.toInt ts.toInt te.toInt 1 (-1 : Int) from ⟨by decide, Or.inl ⟨rfl, fun k8 v8 b8 ht8 => f_nbn (c := 107) (Or.inl ⟨rfl, rfl⟩) hC (Or.inr (Or.inr (Or.inr (by rw [show (ts).toInt + 1 = (z_15).toInt by omega]; exact f_atn (hw_18.2.1 (by omega) (by omega)) hw_21)))) ht8⟩⟩), trivial⟩, hS.F ht⟩) hS.2.2 dX10_numberBehind_50
def u_s_X10_numberBehind_2 : List Cond := .code yX10_numberBehind cX10_numberBehind 2 (some .int) :: ([.fieldLink RX10 35 "ShellHeap$Tape" "sort" "I", .fieldLink RX10 32 "ShellHeap$Tape" "end" "I", .fieldLink RX10 29 "ShellHeap$Tape" "start" "I", .methodLink RX10 50 yX10_byteAt, .instanceMethod yX10_byteAt, .selects RX10 yX10_byteAt yX10_byteAt, .initialized RX10, .methodLink RX10 64 yX10_isDigit, .static yX10_isDigit, .methodLink RX10 80 yX10_numberFrom, .instanceMethod yX10_numberFrom, .selects RX10 yX10_numberFrom yX10_numberFrom] ++ (wsX100 ++ (u_s_X10_byteAt4 ++ (u_s_X10_isDigit3 ++ (u_s_X10_numberFrom3 ++ [])))))
theorem gd_s_X10_numberBehind_2 : z_gd u_s_X10_numberBehind_2 := z_gdc (by decide +kernel) (z_gda gdX10 (z_gda gd_s_X10_byteAt4 (z_gda gd_s_X10_isDigit3 (z_gda gd_s_X10_numberFrom3 (z_gd0)))))
set_option maxRecDepth 20000 in
theorem gw_s_X10_numberBehind_2_s_X10_byteAt4_50 : GoodIn u_s_X10_numberBehind_2 (wsV RX10 50 RX10 yX10_byteAt u_s_X10_byteAt4) := z_gV (z_gr _ [4, 5, 6, 7] rfl (by decide +kernel)) (fun w h => ⟨z_mc (z_mr (z_mr (z_ml h))), gd_s_X10_byteAt4 w h⟩)
set_option maxRecDepth 20000 in
theorem gw_s_X10_numberBehind_2_s_X10_isDigit3_64 : GoodIn u_s_X10_numberBehind_2 (va_wsS RX10 64 yX10_isDigit u_s_X10_isDigit3) := z_gS (z_gr _ [8, 9, 7] rfl (by decide +kernel)) (fun w h => ⟨z_mc (z_mr (z_mr (z_mr (z_ml h)))), gd_s_X10_isDigit3 w h⟩)
set_option maxRecDepth 20000 in
theorem gw_s_X10_numberBehind_2_s_X10_numberFrom3_80 : GoodIn u_s_X10_numberBehind_2 (wsV RX10 80 RX10 yX10_numberFrom u_s_X10_numberFrom3) := z_gV (z_gr _ [10, 11, 12, 7] rfl (by decide +kernel)) (fun w h => ⟨z_mc (z_mr (z_mr (z_mr (z_mr (z_ml h))))), gd_s_X10_numberFrom3 w h⟩)
set_option maxHeartbeats 4000000 in
set_option maxRecDepth 100000 in
theorem s_X10_numberBehind_2 (l : Launch) (dC : Nat → ClassId) (dI : Nat → Nat → Nat) (sz : Nat) (h0 : Nat) (h1 : Nat) (tt : Int32) (h0_2 : Value) (h0_3 : Value) (h0_4 : Value) (ts : Int32) (te : Int32) (to : Int32) (tg : Int32) (h0_9 : Value) (h0_10 : Value) (ch1 : ClassId) (fh1 : Nat → Int32) (hB_tt : ((0 : Int) ≤ (tt).toInt ∧ (tt).toInt ≤ (700 : Int))) (hB_ts : ((0 : Int) ≤ (ts).toInt ∧ (ts).toInt ≤ (700 : Int))) (hB_te : ((0 : Int) ≤ (te).toInt ∧ (te).toInt ≤ (700 : Int))) (hI_h1 : ∀ j : Nat, ((0 : Int) ≤ (fh1 j).toInt ∧ (fh1 j).toInt ≤ (255 : Int))) (hC : f_C fh1 tt.toInt to.toInt tg.toInt ts.toInt te.toInt) (het : te.toInt ≤ tt.toInt) : Met l yX10_numberBehind u_s_X10_numberBehind_2 ({ frames := 2, cells := 0, slots := 0, locals := 44 }) (va_Pc [.ref h0, .int 115] (z_C (dC, dI) vwCl [(h0, .inr (10, [.ref h1, .int tt, h0_2, h0_3, h0_4, .int ts, .int te, .int to, .int tg, h0_9, h0_10])), (h1, .inl (ch1, 700, .inl fh1))] [(ch1, .int)] sz)) (va_Qi (fun (r : Int32) (_ : Unit) => ((-1 : Int) ≤ (r).toInt ∧ (r).toInt ≤ (1000000 : Int)) ∧ f_nbA fh1 tt.toInt ts.toInt te.toInt 2 (r).toInt) (fun (_ : Unit) (_ : State) => True) (va_A [] sz)) 0 0 (va_A [] sz) := by
  refine Met.ofW (cc := cX10_numberBehind) (maxL := 2) (ret := (some .int)) (by decide) rfl ?_
  intro p e s m args below meth c s₁ B hml hv
  obtain ⟨rfl, hsz, hP, hK, hD0⟩ := hv
  have hx := B.exec
  have hb := B.bytes
  have hr := B.returns
  have hts := atoms_spec (ws := u_s_X10_numberBehind_2) B.pre
  have hown : s.vm.findClass RX10 = some m.cls := findClass_of_methodNamed B.named
  have hlocks := B.notSynchronized
  subst hsz
  have hD := hD0
  generalize hAe : va_A [] s.heap.size = A
  have hA : ∀ q : Nat, s.heap.size ≤ q → A q := fun q h => by rw [← hAe]; exact Or.inr h
  have hS : va_S A s.heap s.heap [] := va_S.rf
  have hP : va_P (dC, dI) vwCl [(h0, .inr (10, [.ref h1, .int tt, h0_2, h0_3, h0_4, .int ts, .int te, .int to, .int tg, h0_9, h0_10])), (h1, .inl (ch1, 700, .inl fh1))] s.heap := hP
  have w__fieldLink_RX10_35_ShellHeap_Tape_sort_I_ := hts (.fieldLink RX10 35 "ShellHeap$Tape" "sort" "I") (z_mc (z_ml z_m0))
  have hiX10 := show ∀ w ∈ u_ws RX10 TX10 11, w ∈ u_s_X10_numberBehind_2 from fun w h => z_mc (z_mr (z_ml h))
  have w__fieldLink_RX10_32_ShellHeap_Tape_end_I_ := hts (.fieldLink RX10 32 "ShellHeap$Tape" "end" "I") (z_mc (z_ml z_m1))
  have w__fieldLink_RX10_29_ShellHeap_Tape_start_I_ := hts (.fieldLink RX10 29 "ShellHeap$Tape" "start" "I") (z_mc (z_ml z_m2))
  have hl := lv_entry ([.ref h0, .int 115]) (n := 2) (Nat.le_of_ble_eq_true rfl)
  rw [lg_entry_eq]
  generalize (lg_sl ([.ref h0, .int 115]) ++ List.replicate (2 - (lg_sl ([.ref h0, .int 115])).length) Slot.unset).toArray = ls at hl ⊢
  have hl : lv_has ls 2 [(0, .ref h0), (1, .int 115)] := hl
  refine lv_aload_n hx hb dX10_numberBehind_0 rfl (lv_at hl 0 rfl) ?_
  refine va_get (D := (dC, dI)) (ci := 10) (v := .int to) (C := RX10) (T := TX10) (N := 11) hx hb hts hiX10 hown hK hP 0 rfl rfl 7 (by decide) w__fieldLink_RX10_35_ShellHeap_Tape_sort_I_ (fun _ h9 => h9) rfl dX10_numberBehind_1 ?_
  refine lv_iconst (v := 1) hx hb dX10_numberBehind_4 (by decide) ?_
  refine lv_icmp_ne (tgt := 49) hx hb dX10_numberBehind_5 (by decide) (fun c_1 => ?_) (fun c_1 => ?_)
  · have k_2 : (to).toInt ≠ (1 : Int) := z_ne c_1
    refine lv_iconst (v := (-1)) hx hb dX10_numberBehind_49 (by decide) ?_
    refine W.widen (k := 0) (n := 0) (Nat.le_of_ble_eq_true rfl) (Nat.le_of_ble_eq_true rfl) ?_
    exact W.iret (v := (-1)) hx hb hr (fun t ht hW => ⟨⟨(-1), (), rfl, (show ((-1 : Int) ≤ (-1 : Int) ∧ (-1 : Int) ≤ (1000000 : Int)) ∧ f_nbA fh1 tt.toInt ts.toInt te.toInt 2 (-1 : Int) from ⟨by decide, Or.inl ⟨rfl, fun k8 v8 b8 ht8 => f_nbn (c := 115) (Or.inr ⟨rfl, rfl⟩) hC (by first | exact Or.inl (by omega) | exact Or.inr (Or.inl (by omega))) ht8⟩⟩), trivial⟩, hS.F ht⟩) hS.2.2 dX10_numberBehind_50
  · have k_3 : (to).toInt = (1 : Int) := z_eq c_1
    refine lv_aload_n hx hb dX10_numberBehind_8 rfl (lv_at hl 0 rfl) ?_
    refine va_get (D := (dC, dI)) (ci := 10) (v := .int te) (C := RX10) (T := TX10) (N := 11) hx hb hts hiX10 hown hK hP 0 rfl rfl 6 (by decide) w__fieldLink_RX10_32_ShellHeap_Tape_end_I_ (fun _ h9 => h9) rfl dX10_numberBehind_9 ?_
    refine lv_aload_n hx hb dX10_numberBehind_12 rfl (lv_at hl 0 rfl) ?_
    refine va_get (D := (dC, dI)) (ci := 10) (v := .int ts) (C := RX10) (T := TX10) (N := 11) hx hb hts hiX10 hown hK hP 0 rfl rfl 5 (by decide) w__fieldLink_RX10_29_ShellHeap_Tape_start_I_ (fun _ h9 => h9) rfl dX10_numberBehind_13 ?_
    refine lv_isub hx hb dX10_numberBehind_16 ?_
    refine lv_topi (fun z_4 ez_4 => ?_)
    have kz_4 : (z_4).toInt = (te).toInt - (ts).toInt := by rw [ez_4]; exact z_sub (a := (te).toInt) (b := (ts).toInt) rfl rfl (by omega) (by omega)
    refine lv_iconst (v := 2) hx hb dX10_numberBehind_17 (by decide) ?_
    refine lv_icmp_lt (tgt := 49) hx hb dX10_numberBehind_18 (by decide) (fun c_5 => ?_) (fun c_5 => ?_)
    · have k_6 : (z_4).toInt < (2 : Int) := z_lt c_5
      refine lv_iconst (v := (-1)) hx hb dX10_numberBehind_49 (by decide) ?_
      refine W.widen (k := 0) (n := 0) (Nat.le_of_ble_eq_true rfl) (Nat.le_of_ble_eq_true rfl) ?_
      exact W.iret (v := (-1)) hx hb hr (fun t ht hW => ⟨⟨(-1), (), rfl, (show ((-1 : Int) ≤ (-1 : Int) ∧ (-1 : Int) ≤ (1000000 : Int)) ∧ f_nbA fh1 tt.toInt ts.toInt te.toInt 2 (-1 : Int) from ⟨by decide, Or.inl ⟨rfl, fun k8 v8 b8 ht8 => f_nbn (c := 115) (Or.inr ⟨rfl, rfl⟩) hC (by first | exact Or.inl (by omega) | exact Or.inr (Or.inl (by omega))) ht8⟩⟩), trivial⟩, hS.F ht⟩) hS.2.2 dX10_numberBehind_50
    · have k_7 : (z_4).toInt ≥ (2 : Int) := z_nlt c_5
      refine lv_aload_n hx hb dX10_numberBehind_21 rfl (lv_at hl 0 rfl) ?_
      refine lv_aload_n hx hb dX10_numberBehind_22 rfl (lv_at hl 0 rfl) ?_
      refine va_get (D := (dC, dI)) (ci := 10) (v := .int ts) (C := RX10) (T := TX10) (N := 11) hx hb hts hiX10 hown hK hP 0 rfl rfl 5 (by decide) w__fieldLink_RX10_29_ShellHeap_Tape_start_I_ (fun _ h9 => h9) rfl dX10_numberBehind_23 ?_
      have hPc := hP
      have hDc := hD
      have hKc := hK
      have hFc := va_free (ws := []) (wc := []) (z_D0 _) hS hA [] rfl
      refine va_calli (va_runV (As := [.int ts]) (rest := []) ⟨hx, hb, hml, hown, hts⟩ (s_X10_byteAt4 l dC dI s.heap.size h0 ts h1 tt h0_2 h0_3 h0_4 (.int ts) (.int te) (.int to) (.int tg) h0_9 h0_10 ch1 fh1 hB_tt hI_h1) (cwV 1 hts gw_s_X10_numberBehind_2_s_X10_byteAt4_50 rfl rfl rfl (by decide +kernel) ⟨Nat.le_of_ble_eq_true rfl, Nat.le_of_ble_eq_true rfl⟩) ⟨z_blind, va_recv hKc hPc (ci := 10) (q0 := 0) rfl rfl, z_pre hPc hKc hDc⟩ rfl rfl hl.1 rfl (lv_room (Nat.le_of_ble_eq_true rfl)) dX10_numberBehind_26 ⟨Nat.le_of_ble_eq_true rfl, Nat.le_of_ble_eq_true rfl⟩) hS (fun q _ h => hFc q h) hFc (fun r_9 u t H_8 locs ht hvm hw_10 hB hz1 hk1 hS => ?_)
      replace hP := z_pure hP hk1
      clear hPc hDc hKc
      refine lv_iload_n hx hb dX10_numberBehind_29 rfl (lv_at hl 1 rfl) ?_
      refine lv_icmp_ne (tgt := 49) hx hb dX10_numberBehind_30 (by decide) (fun c_11 => ?_) (fun c_11 => ?_)
      · have k_12 : (r_9).toInt ≠ (115 : Int) := z_ne c_11
        refine lv_iconst (v := (-1)) hx hb dX10_numberBehind_49 (by decide) ?_
        refine W.widen (k := 0) (n := 0) (Nat.le_of_ble_eq_true rfl) (Nat.le_of_ble_eq_true rfl) ?_
        exact W.iret (v := (-1)) hx hb hr (fun t ht hW => ⟨⟨(-1), (), rfl, (show ((-1 : Int) ≤ (-1 : Int) ∧ (-1 : Int) ≤ (1000000 : Int)) ∧ f_nbA fh1 tt.toInt ts.toInt te.toInt 2 (-1 : Int) from ⟨by decide, Or.inl ⟨rfl, fun k8 v8 b8 ht8 => f_nbn (c := 115) (Or.inr ⟨rfl, rfl⟩) hC (Or.inr (Or.inr (Or.inl (fun q9 => absurd ((congrArg Int32.toInt (hw_10.2.1 (by omega) (by omega))).trans q9) (by omega))))) ht8⟩⟩), trivial⟩, hS.F ht⟩) hS.2.2 dX10_numberBehind_50
      · have k_13 : (r_9).toInt = (115 : Int) := z_eq c_11
        obtain rfl : r_9 = 115 := z_eq' (show (r_9).toInt = (115 : Int) by omega)
        refine lv_aload_n hx hb dX10_numberBehind_33 rfl (lv_at hl 0 rfl) ?_
        refine lv_aload_n hx hb dX10_numberBehind_34 rfl (lv_at hl 0 rfl) ?_
        refine va_get (D := (dC, dI)) (ci := 10) (v := .int ts) (C := RX10) (T := TX10) (N := 11) hx hb hts hiX10 hown hK hP 0 rfl rfl 5 (by decide) w__fieldLink_RX10_29_ShellHeap_Tape_start_I_ (fun _ h9 => h9) rfl dX10_numberBehind_35 ?_
        refine lv_iconst (v := 1) hx hb dX10_numberBehind_38 (by decide) ?_
        refine lv_iadd hx hb dX10_numberBehind_39 ?_
        refine lv_topi (fun z_15 ez_15 => ?_)
        have kz_15 : (z_15).toInt = (ts).toInt + (1 : Int) := by rw [ez_15]; exact z_add (a := (ts).toInt) (b := (1 : Int)) rfl rfl (z_al hB_ts.1 (by decide)) (z_ah hB_ts.2 (by decide))
        have hPc := hP
        have hDc := hD
        have hKc := hK
        have hFc := va_free (ws := []) (wc := []) (z_D0 _) hS hA [] rfl
        refine va_calli (va_runV (As := [.int z_15]) (rest := []) ⟨hx, hb, hml, hown, hts⟩ (s_X10_byteAt4 l dC dI H_8.size h0 z_15 h1 tt h0_2 h0_3 h0_4 (.int ts) (.int te) (.int to) (.int tg) h0_9 h0_10 ch1 fh1 hB_tt hI_h1) (cwV 1 hts gw_s_X10_numberBehind_2_s_X10_byteAt4_50 rfl rfl rfl (by decide +kernel) ⟨Nat.le_of_ble_eq_true rfl, Nat.le_of_ble_eq_true rfl⟩) ⟨z_blind, va_recv hKc hPc (ci := 10) (q0 := 0) rfl rfl, z_pre hPc hKc hDc⟩ rfl rfl hl.1 rfl (lv_room (Nat.le_of_ble_eq_true rfl)) dX10_numberBehind_40 ⟨Nat.le_of_ble_eq_true rfl, Nat.le_of_ble_eq_true rfl⟩) hS (fun q _ h => hFc q h) hFc (fun r_17 u t H_16 locs ht hvm hw_18 hB hz1 hk1 hS => ?_)
        replace hP := z_pure hP hk1
        clear hPc hDc hKc
        obtain ⟨hPc, hDc⟩ := z_sub2 (ws' := []) hP hD [] (by decide) rfl
        have hKc := hK.sub (tys' := []) [] rfl
        have hFc := va_free (ws := []) (wc := []) (z_D0 _) hS hA [] rfl
        refine va_calli (va_runS (As := [.int r_17]) (rest := []) ⟨hx, hb, hml, hown, hts⟩ (s_X10_isDigit3 l dC dI H_16.size r_17) (va_cwS 1 hts gw_s_X10_numberBehind_2_s_X10_isDigit3_64 rfl rfl rfl (by decide +kernel) ⟨Nat.le_of_ble_eq_true rfl, Nat.le_of_ble_eq_true rfl⟩) ⟨z_blind, z_pre hPc hKc hDc⟩ rfl rfl hl.1 rfl (lv_room (Nat.le_of_ble_eq_true rfl)) dX10_numberBehind_43 ⟨Nat.le_of_ble_eq_true rfl, Nat.le_of_ble_eq_true rfl⟩) hS (fun q _ h => hFc q h) hFc (fun r_20 u t H_19 locs ht hvm hw_21 hB hz1 hk1 hS => ?_)
        replace hP := z_pure hP hk1
        clear hPc hDc hKc
        rcases hw_21 with ⟨rfl, hw_21⟩ | ⟨rfl, hw_21⟩
        · have hw_21 : f_di r_17.toInt := hw_21
          refine lv_if_ne (tgt := 51) hx hb dX10_numberBehind_46 (by decide) (fun _ => ?_) (fun c_22 => absurd c_22 (by decide))
          refine lv_aload_n hx hb dX10_numberBehind_51 rfl (lv_at hl 0 rfl) ?_
          refine lv_aload_n hx hb dX10_numberBehind_52 rfl (lv_at hl 0 rfl) ?_
          refine va_get (D := (dC, dI)) (ci := 10) (v := .int ts) (C := RX10) (T := TX10) (N := 11) hx hb hts hiX10 hown hK hP 0 rfl rfl 5 (by decide) w__fieldLink_RX10_29_ShellHeap_Tape_start_I_ (fun _ h9 => h9) rfl dX10_numberBehind_53 ?_
          refine lv_iconst (v := 1) hx hb dX10_numberBehind_56 (by decide) ?_
          refine lv_iadd hx hb dX10_numberBehind_57 ?_
          refine lv_topi (fun z_23 ez_23 => ?_)
          have kz_23 : (z_23).toInt = (ts).toInt + (1 : Int) := by rw [ez_23]; exact z_add (a := (ts).toInt) (b := (1 : Int)) rfl rfl (z_al hB_ts.1 (by decide)) (z_ah hB_ts.2 (by decide))
          have hnb : f_run f_di fh1 (tt).toInt (z_23).toInt (te).toInt ∧ f_tk fh1 (tt).toInt (ts).toInt 2 (f_v (f_nm fh1 (z_23).toInt (te).toInt)) (te).toInt := by
            rw [show (z_23).toInt = (ts).toInt + 1 by omega]
            refine f_nb (Or.inr ⟨rfl, rfl⟩) hC (by omega) (by omega) ?_ ?_
            · exact ((congrArg Int32.toInt (hw_10.2.1 (by omega) (by omega))).symm.trans (by first | omega | decide))
            · rw [show (ts).toInt + 1 = (z_15).toInt by omega]; exact f_atb (hw_18.2.1 (by omega) (by omega)) hw_21
          have hPc := hP
          have hDc := hD
          have hKc := hK
          have hFc := va_free (ws := []) (wc := []) (z_D0 _) hS hA [] rfl
          refine va_calli (va_runV (As := [.int z_23]) (rest := []) ⟨hx, hb, hml, hown, hts⟩ (s_X10_numberFrom3 l dC dI H_19.size h0 z_23 h1 tt h0_2 h0_3 h0_4 (.int ts) te (.int to) (.int tg) h0_9 h0_10 ch1 fh1 hB_tt hB_te (by first | omega | decide) hI_h1 (f_run_pre hnb.1) (by first | omega | decide)) (cwV 1 hts gw_s_X10_numberBehind_2_s_X10_numberFrom3_80 rfl rfl rfl (by decide +kernel) ⟨Nat.le_of_ble_eq_true rfl, Nat.le_of_ble_eq_true rfl⟩) ⟨z_blind, va_recv hKc hPc (ci := 10) (q0 := 0) rfl rfl, z_pre hPc hKc hDc⟩ rfl rfl hl.1 rfl (lv_room (Nat.le_of_ble_eq_true rfl)) dX10_numberBehind_58 ⟨Nat.le_of_ble_eq_true rfl, Nat.le_of_ble_eq_true rfl⟩) hS (fun q _ h => hFc q h) hFc (fun r_25 u t H_24 locs ht hvm hw_26 hB hz1 hk1 hS => ?_)
          replace hP := z_pure hP hk1
          clear hPc hDc hKc
          refine W.widen (k := 0) (n := 0) (Nat.le_of_ble_eq_true rfl) (Nat.le_of_ble_eq_true rfl) ?_
          exact W.iret (v := r_25) hx hb hr (fun t ht hW => ⟨⟨r_25, (), rfl, (show ((-1 : Int) ≤ (r_25).toInt ∧ (r_25).toInt ≤ (1000000 : Int)) ∧ f_nbA fh1 tt.toInt ts.toInt te.toInt 2 (r_25).toInt from ⟨by omega, Or.inr ⟨by omega, by rw [hw_26.2]; exact hnb.2⟩⟩), trivial⟩, hS.F ht⟩) hS.2.2 dX10_numberBehind_61
        · have hw_21 : ¬ f_di r_17.toInt := hw_21
          refine lv_if_ne (tgt := 51) hx hb dX10_numberBehind_46 (by decide) (fun c_27 => absurd c_27 (by decide)) (fun _ => ?_)
          refine lv_iconst (v := (-1)) hx hb dX10_numberBehind_49 (by decide) ?_
          refine W.widen (k := 0) (n := 0) (Nat.le_of_ble_eq_true rfl) (Nat.le_of_ble_eq_true rfl) ?_
          exact W.iret (v := (-1)) hx hb hr (fun t ht hW => ⟨⟨(-1), (), rfl, (show ((-1 : Int) ≤ (-1 : Int) ∧ (-1 : Int) ≤ (1000000 : Int)) ∧ f_nbA fh1 tt.toInt ts.toInt te.toInt 2 (-1 : Int) from ⟨by decide, Or.inl ⟨rfl, fun k8 v8 b8 ht8 => f_nbn (c := 115) (Or.inr ⟨rfl, rfl⟩) hC (Or.inr (Or.inr (Or.inr (by rw [show (ts).toInt + 1 = (z_15).toInt by omega]; exact f_atn (hw_18.2.1 (by omega) (by omega)) hw_21)))) ht8⟩⟩), trivial⟩, hS.F ht⟩) hS.2.2 dX10_numberBehind_50
