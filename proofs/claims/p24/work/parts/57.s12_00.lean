def u_s_X3_ofShells : List Cond := .code yX3_ofShells cX3_ofShells 2 (some .long) :: ([.constantLong RX3 79 (-1), .fieldLink RX3 39 "ShellHeap$Judge" "pantry" "LShellHeap$Pantry;", .methodLink RX3 125 yX5_lasts, .instanceMethod yX5_lasts, .selects RX5 yX5_lasts yX5_lasts, .initialized RX5, .fieldLink RX3 128 "ShellHeap$Pantry" "lost" "J", .methodLink RX3 132 yX5_hasKind, .instanceMethod yX5_hasKind, .selects RX5 yX5_hasKind yX5_hasKind, .fieldLink RX3 136 "ShellHeap$Pantry" "leastNumber" "[J", .fieldLink RX3 139 "ShellHeap$Pantry" "food" "J"] ++ (wsX30 ++ (wsX50 ++ (u_s_X5_lasts ++ (u_s_X5_hasKind ++ [])))))
theorem gd_s_X3_ofShells : z_gd u_s_X3_ofShells := z_gdc (by decide +kernel) (z_gda gdX3 (z_gda gdX5 (z_gda gd_s_X5_lasts (z_gda gd_s_X5_hasKind (z_gd0)))))
set_option maxRecDepth 20000 in
theorem gw_s_X3_ofShells_s_X5_lasts_125 : GoodIn u_s_X3_ofShells (wsV RX3 125 RX5 yX5_lasts u_s_X5_lasts) := z_gV (z_gr _ [3, 4, 5, 6] rfl (by decide +kernel)) (fun w h => ⟨z_mc (z_mr (z_mr (z_mr (z_ml h)))), gd_s_X5_lasts w h⟩)
set_option maxRecDepth 20000 in
theorem gw_s_X3_ofShells_s_X5_hasKind_132 : GoodIn u_s_X3_ofShells (wsV RX3 132 RX5 yX5_hasKind u_s_X5_hasKind) := z_gV (z_gr _ [8, 9, 10, 6] rfl (by decide +kernel)) (fun w h => ⟨z_mc (z_mr (z_mr (z_mr (z_mr (z_ml h))))), gd_s_X5_hasKind w h⟩)
set_option maxHeartbeats 4000000 in
set_option maxRecDepth 100000 in
theorem s_X3_ofShells (l : Launch) (dC : Nat → ClassId) (dI : Nat → Nat → Nat) (sz : Nat) (h0 : Nat) (p1 : Int32) (h0_0 : Value) (h0_1 : Value) (a_pa : Nat) (h0_3 : Value) (h0_4 : Value) (h0_5 : Value) (h0_6 : Value) (h0_7 : Value) (h0_8 : Value) (h0_9 : Value) (a_pa_0 : Value) (a_pa_1 : Value) (a_pa_2 : Value) (a_pa_3 : Value) (a_pa_4 : Value) (a_ln : Nat) (a_pa_6 : Value) (pf : Int64) (pl : Int64) (pk : Int32) (ca_ln : ClassId) (fa_ln : Nat → Int64) (hB_pk : ((0 : Int) ≤ (pk).toInt ∧ (pk).toInt ≤ (6 : Int))) : Met l yX3_ofShells u_s_X3_ofShells ({ frames := 1, cells := 0, slots := 0, locals := 24 }) (va_Pc [.ref h0, .int p1] (z_C (dC, dI) vwCl [(h0, .inr (3, [h0_0, h0_1, .ref a_pa, h0_3, h0_4, h0_5, h0_6, h0_7, h0_8, h0_9])), (a_pa, .inr (5, [a_pa_0, a_pa_1, a_pa_2, a_pa_3, a_pa_4, .ref a_ln, a_pa_6, .long pf, .long pl, .int pk])), (a_ln, .inl (ca_ln, 6, .inr (.inl fa_ln)))] [(ca_ln, .long)] sz)) (va_Ql (fun (r : Int64) (_ : Unit) => True) (fun (_ : Unit) (_ : State) => True) (va_A [] sz)) 0 0 (va_A [] sz) := by
  refine Met.ofW (cc := cX3_ofShells) (maxL := 2) (ret := (some .long)) (by decide) rfl ?_
  intro p e s m args below meth c s₁ B hml hv
  obtain ⟨rfl, hsz, hP, hK, hD0⟩ := hv
  have hx := B.exec
  have hb := B.bytes
  have hr := B.returns
  have hts := atoms_spec (ws := u_s_X3_ofShells) B.pre
  have hown : s.vm.findClass RX3 = some m.cls := findClass_of_methodNamed B.named
  have hlocks := B.notSynchronized
  subst hsz
  have hD := hD0
  generalize hAe : va_A [] s.heap.size = A
  have hA : ∀ q : Nat, s.heap.size ≤ q → A q := fun q h => by rw [← hAe]; exact Or.inr h
  have hS : va_S A s.heap s.heap [] := va_S.rf
  have hP : va_P (dC, dI) vwCl [(h0, .inr (3, [h0_0, h0_1, .ref a_pa, h0_3, h0_4, h0_5, h0_6, h0_7, h0_8, h0_9])), (a_pa, .inr (5, [a_pa_0, a_pa_1, a_pa_2, a_pa_3, a_pa_4, .ref a_ln, a_pa_6, .long pf, .long pl, .int pk])), (a_ln, .inl (ca_ln, 6, .inr (.inl fa_ln)))] s.heap := hP
  have w__constantLong_RX3_79_1_ := hts (.constantLong RX3 79 (-1)) (by decide +kernel)
  have w__fieldLink_RX3_39_ShellHeap_Judge_pantry_LShellHeap_Pantry_ := hts (.fieldLink RX3 39 "ShellHeap$Judge" "pantry" "LShellHeap$Pantry;") (by decide +kernel)
  have hiX3 := show ∀ w ∈ u_ws RX3 TX3 10, w ∈ u_s_X3_ofShells from fun w h => z_mc (z_mr (z_ml h))
  have w__fieldLink_RX3_128_ShellHeap_Pantry_lost_J_ := hts (.fieldLink RX3 128 "ShellHeap$Pantry" "lost" "J") (by decide +kernel)
  have hiX5 := show ∀ w ∈ u_ws RX5 TX5 10, w ∈ u_s_X3_ofShells from fun w h => z_mc (z_mr (z_mr (z_ml h)))
  have w__fieldLink_RX3_136_ShellHeap_Pantry_leastNumber_J_ := hts (.fieldLink RX3 136 "ShellHeap$Pantry" "leastNumber" "[J") (by decide +kernel)
  have w__fieldLink_RX3_139_ShellHeap_Pantry_food_J_ := hts (.fieldLink RX3 139 "ShellHeap$Pantry" "food" "J") (by decide +kernel)
  have krr_p1 := z_rng p1
  have hl := lv_entry ([.ref h0, .int p1]) (n := 2) (Nat.le_of_ble_eq_true rfl)
  rw [lg_entry_eq]
  generalize (lg_sl ([.ref h0, .int p1]) ++ List.replicate (2 - (lg_sl ([.ref h0, .int p1])).length) Slot.unset).toArray = ls at hl ⊢
  have hl : lv_has ls 2 [(0, .ref h0), (1, .int p1)] := hl
  refine lv_iload_n hx hb dX3_ofShells_0 rfl (lv_at hl 1 rfl) ?_
  rcases z_sw p1 (3) (9) with hsw | hsw
  · refine lv_tableOut (tgt := 100) hx hb dX3_ofShells_1 hsw (by decide) ?_
    refine lv_ldc2 (v := (-1)) hx hb hown w__constantLong_RX3_79_1_ dX3_ofShells_100 ?_
    refine W.widen (k := 0) (n := 0) (Nat.le_of_ble_eq_true rfl) (Nat.le_of_ble_eq_true rfl) ?_
    exact W.lret (v := (-1)) hx hb hr (fun t ht hW => ⟨⟨(-1), (), rfl, trivial, trivial⟩, hS.F ht⟩) hS.2.2 dX3_ofShells_103
  · rcases (show (p1).toInt = (3 : Int) ∨ ¬ (p1).toInt = (3 : Int) from Classical.em _) with he | he
    · obtain rfl : p1 = 3 := z_eq' he
      refine lv_tableIn (tgt := 44) hx hb dX3_ofShells_1 (by decide) (by decide) (off := 43) rfl (by decide) ?_
      refine lv_aload_n hx hb dX3_ofShells_44 rfl (lv_at hl 0 rfl) ?_
      refine va_get (D := (dC, dI)) (ci := 3) (v := .ref a_pa) (C := RX3) (T := TX3) (N := 10) hx hb hts hiX3 hown hK hP 0 rfl rfl 2 (by decide) w__fieldLink_RX3_39_ShellHeap_Judge_pantry_LShellHeap_Pantry_ (fun _ h9 => h9) rfl dX3_ofShells_45 ?_
      refine lv_sipush (v := 20000) hx hb dX3_ofShells_48 (by decide) ?_
      refine lv_bipush (v := 100) hx hb dX3_ofShells_51 (by decide) ?_
      have hPc := hP.sub (ws' := [(a_pa, .inr (5, [a_pa_0, a_pa_1, a_pa_2, a_pa_3, a_pa_4, .ref a_ln, a_pa_6, .long pf, .long pl, .int pk]))]) [1] rfl
      have hDc := hD.sub (ws' := [(a_pa, .inr (5, [a_pa_0, a_pa_1, a_pa_2, a_pa_3, a_pa_4, .ref a_ln, a_pa_6, .long pf, .long pl, .int pk]))]) [1] (by decide) rfl
      have hKc := hK.sub (tys' := []) [] rfl
      have hFc := va_free (ws := []) (wc := []) (z_D0 _) hS hA [] rfl
      refine va_calll (va_runV (As := [.int 20000, .int 100]) (rest := []) ⟨hx, hb, hml, hown, hts⟩ (s_X5_lasts l dC dI s.heap.size a_pa 20000 100 a_pa_0 a_pa_1 a_pa_2 a_pa_3 a_pa_4 (.ref a_ln) a_pa_6 pf (.long pl) (.int pk)) (cwV 2 hts gw_s_X3_ofShells_s_X5_lasts_125 rfl rfl rfl (by decide +kernel) ⟨Nat.le_of_ble_eq_true rfl, Nat.le_of_ble_eq_true rfl⟩) ⟨z_blind, va_recv hKc hPc (ci := 5) (q0 := 0) rfl rfl, z_pre hPc hKc hDc⟩ rfl rfl hl.1 rfl (lv_room (Nat.le_of_ble_eq_true rfl)) dX3_ofShells_53 ⟨Nat.le_of_ble_eq_true rfl, Nat.le_of_ble_eq_true rfl⟩) hS (fun q _ h => hFc q h) hFc (fun r_2 u t H_1 locs ht hvm hw_3 hB hz1 hk1 hS => ?_)
      have hP := z_pure hP hk1
      have hP : va_P (dC, dI) vwCl [(h0, .inr (3, [h0_0, h0_1, .ref a_pa, h0_3, h0_4, h0_5, h0_6, h0_7, h0_8, h0_9])), (a_pa, .inr (5, [a_pa_0, a_pa_1, a_pa_2, a_pa_3, a_pa_4, .ref a_ln, a_pa_6, .long pf, .long pl, .int pk])), (a_ln, .inl (ca_ln, 6, .inr (.inl fa_ln)))] H_1 := hP
      have hD : va_D (fun _ => True) [(h0, .inr (3, [h0_0, h0_1, .ref a_pa, h0_3, h0_4, h0_5, h0_6, h0_7, h0_8, h0_9])), (a_pa, .inr (5, [a_pa_0, a_pa_1, a_pa_2, a_pa_3, a_pa_4, .ref a_ln, a_pa_6, .long pf, .long pl, .int pk])), (a_ln, .inl (ca_ln, 6, .inr (.inl fa_ln)))] := hD
      clear hPc hDc hKc
      refine W.widen (k := 0) (n := 0) (Nat.le_of_ble_eq_true rfl) (Nat.le_of_ble_eq_true rfl) ?_
      exact W.lret (v := r_2) hx hb hr (fun t ht hW => ⟨⟨r_2, (), rfl, trivial, trivial⟩, hS.F ht⟩) hS.2.2 dX3_ofShells_56
    · rcases (show (p1).toInt = (4 : Int) ∨ ¬ (p1).toInt = (4 : Int) from Classical.em _) with he | he
      · obtain rfl : p1 = 4 := z_eq' he
        refine lv_tableIn (tgt := 100) hx hb dX3_ofShells_1 (by decide) (by decide) (off := 99) rfl (by decide) ?_
        refine lv_ldc2 (v := (-1)) hx hb hown w__constantLong_RX3_79_1_ dX3_ofShells_100 ?_
        refine W.widen (k := 0) (n := 0) (Nat.le_of_ble_eq_true rfl) (Nat.le_of_ble_eq_true rfl) ?_
        exact W.lret (v := (-1)) hx hb hr (fun t ht hW => ⟨⟨(-1), (), rfl, trivial, trivial⟩, hS.F ht⟩) hS.2.2 dX3_ofShells_103
      · rcases (show (p1).toInt = (5 : Int) ∨ ¬ (p1).toInt = (5 : Int) from Classical.em _) with he | he
        · obtain rfl : p1 = 5 := z_eq' he
          refine lv_tableIn (tgt := 100) hx hb dX3_ofShells_1 (by decide) (by decide) (off := 99) rfl (by decide) ?_
          refine lv_ldc2 (v := (-1)) hx hb hown w__constantLong_RX3_79_1_ dX3_ofShells_100 ?_
          refine W.widen (k := 0) (n := 0) (Nat.le_of_ble_eq_true rfl) (Nat.le_of_ble_eq_true rfl) ?_
          exact W.lret (v := (-1)) hx hb hr (fun t ht hW => ⟨⟨(-1), (), rfl, trivial, trivial⟩, hS.F ht⟩) hS.2.2 dX3_ofShells_103
        · rcases (show (p1).toInt = (6 : Int) ∨ ¬ (p1).toInt = (6 : Int) from Classical.em _) with he | he
          · obtain rfl : p1 = 6 := z_eq' he
            refine lv_tableIn (tgt := 57) hx hb dX3_ofShells_1 (by decide) (by decide) (off := 56) rfl (by decide) ?_
            refine lv_aload_n hx hb dX3_ofShells_57 rfl (lv_at hl 0 rfl) ?_
            refine va_get (D := (dC, dI)) (ci := 3) (v := .ref a_pa) (C := RX3) (T := TX3) (N := 10) hx hb hts hiX3 hown hK hP 0 rfl rfl 2 (by decide) w__fieldLink_RX3_39_ShellHeap_Judge_pantry_LShellHeap_Pantry_ (fun _ h9 => h9) rfl dX3_ofShells_58 ?_
            refine va_get (D := (dC, dI)) (ci := 5) (v := .long pl) (C := RX5) (T := TX5) (N := 10) hx hb hts hiX5 hown hK hP 1 rfl rfl 8 (by decide) w__fieldLink_RX3_128_ShellHeap_Pantry_lost_J_ (fun _ h9 => h9) rfl dX3_ofShells_61 ?_
            refine W.widen (k := 0) (n := 0) (Nat.le_of_ble_eq_true rfl) (Nat.le_of_ble_eq_true rfl) ?_
            exact W.lret (v := pl) hx hb hr (fun t ht hW => ⟨⟨pl, (), rfl, trivial, trivial⟩, hS.F ht⟩) hS.2.2 dX3_ofShells_64
          · rcases (show (p1).toInt = (7 : Int) ∨ ¬ (p1).toInt = (7 : Int) from Classical.em _) with he | he
            · obtain rfl : p1 = 7 := z_eq' he
              refine lv_tableIn (tgt := 100) hx hb dX3_ofShells_1 (by decide) (by decide) (off := 99) rfl (by decide) ?_
              refine lv_ldc2 (v := (-1)) hx hb hown w__constantLong_RX3_79_1_ dX3_ofShells_100 ?_
              refine W.widen (k := 0) (n := 0) (Nat.le_of_ble_eq_true rfl) (Nat.le_of_ble_eq_true rfl) ?_
              exact W.lret (v := (-1)) hx hb hr (fun t ht hW => ⟨⟨(-1), (), rfl, trivial, trivial⟩, hS.F ht⟩) hS.2.2 dX3_ofShells_103
            · rcases (show (p1).toInt = (8 : Int) ∨ ¬ (p1).toInt = (8 : Int) from Classical.em _) with he | he
              · obtain rfl : p1 = 8 := z_eq' he
                refine lv_tableIn (tgt := 65) hx hb dX3_ofShells_1 (by decide) (by decide) (off := 64) rfl (by decide) ?_
                refine lv_aload_n hx hb dX3_ofShells_65 rfl (lv_at hl 0 rfl) ?_
                refine va_get (D := (dC, dI)) (ci := 3) (v := .ref a_pa) (C := RX3) (T := TX3) (N := 10) hx hb hts hiX3 hown hK hP 0 rfl rfl 2 (by decide) w__fieldLink_RX3_39_ShellHeap_Judge_pantry_LShellHeap_Pantry_ (fun _ h9 => h9) rfl dX3_ofShells_66 ?_
                refine lv_iconst (v := 0) hx hb dX3_ofShells_69 (by decide) ?_
                have hPc := hP.sub (ws' := [(a_pa, .inr (5, [a_pa_0, a_pa_1, a_pa_2, a_pa_3, a_pa_4, .ref a_ln, a_pa_6, .long pf, .long pl, .int pk]))]) [1] rfl
                have hDc := hD.sub (ws' := [(a_pa, .inr (5, [a_pa_0, a_pa_1, a_pa_2, a_pa_3, a_pa_4, .ref a_ln, a_pa_6, .long pf, .long pl, .int pk]))]) [1] (by decide) rfl
                have hKc := hK.sub (tys' := []) [] rfl
                have hFc := va_free (ws := []) (wc := []) (z_D0 _) hS hA [] rfl
                refine va_calli (va_runV (As := [.int 0]) (rest := []) ⟨hx, hb, hml, hown, hts⟩ (s_X5_hasKind l dC dI s.heap.size a_pa 0 a_pa_0 a_pa_1 a_pa_2 a_pa_3 a_pa_4 (.ref a_ln) a_pa_6 (.long pf) (.long pl) pk (by first | omega | decide)) (cwV 1 hts gw_s_X3_ofShells_s_X5_hasKind_132 rfl rfl rfl (by decide +kernel) ⟨Nat.le_of_ble_eq_true rfl, Nat.le_of_ble_eq_true rfl⟩) ⟨z_blind, va_recv hKc hPc (ci := 5) (q0 := 0) rfl rfl, z_pre hPc hKc hDc⟩ rfl rfl hl.1 rfl (lv_room (Nat.le_of_ble_eq_true rfl)) dX3_ofShells_70 ⟨Nat.le_of_ble_eq_true rfl, Nat.le_of_ble_eq_true rfl⟩) hS (fun q _ h => hFc q h) hFc (fun r_5 u t H_4 locs ht hvm hw_6 hB hz1 hk1 hS => ?_)
                have hP := z_pure hP hk1
                have hP : va_P (dC, dI) vwCl [(h0, .inr (3, [h0_0, h0_1, .ref a_pa, h0_3, h0_4, h0_5, h0_6, h0_7, h0_8, h0_9])), (a_pa, .inr (5, [a_pa_0, a_pa_1, a_pa_2, a_pa_3, a_pa_4, .ref a_ln, a_pa_6, .long pf, .long pl, .int pk])), (a_ln, .inl (ca_ln, 6, .inr (.inl fa_ln)))] H_4 := hP
                have hD : va_D (fun _ => True) [(h0, .inr (3, [h0_0, h0_1, .ref a_pa, h0_3, h0_4, h0_5, h0_6, h0_7, h0_8, h0_9])), (a_pa, .inr (5, [a_pa_0, a_pa_1, a_pa_2, a_pa_3, a_pa_4, .ref a_ln, a_pa_6, .long pf, .long pl, .int pk])), (a_ln, .inl (ca_ln, 6, .inr (.inl fa_ln)))] := hD
                clear hPc hDc hKc
                rcases hw_6 with ⟨rfl, hw_6⟩ | ⟨rfl, hw_6⟩
                · have hw_6 : (0 ≤ (0 : Int) ∧ (0 : Int) < pk.toInt) := hw_6
                  refine lv_if_eq (tgt := 88) hx hb dX3_ofShells_73 (by decide) (fun c_7 => absurd c_7 (by decide)) (fun _ => ?_)
                  refine lv_aload_n hx hb dX3_ofShells_76 rfl (lv_at hl 0 rfl) ?_
                  refine va_get (D := (dC, dI)) (ci := 3) (v := .ref a_pa) (C := RX3) (T := TX3) (N := 10) hx hb hts hiX3 hown hK hP 0 rfl rfl 2 (by decide) w__fieldLink_RX3_39_ShellHeap_Judge_pantry_LShellHeap_Pantry_ (fun _ h9 => h9) rfl dX3_ofShells_77 ?_
                  refine va_get (D := (dC, dI)) (ci := 5) (v := .ref a_ln) (C := RX5) (T := TX5) (N := 10) hx hb hts hiX5 hown hK hP 1 rfl rfl 5 (by decide) w__fieldLink_RX3_136_ShellHeap_Pantry_leastNumber_J_ (fun _ h9 => h9) rfl dX3_ofShells_80 ?_
                  refine lv_iconst (v := 0) hx hb dX3_ofShells_83 (by decide) ?_
                  refine va_lald hx hb hK hP 2 0 rfl rfl (by unfold vp_in; decide) dX3_ofShells_84 ?_
                  refine lv_topl (fun z_8 ez_8 => ?_)
                  refine lv_goto (tgt := 91) hx hb dX3_ofShells_85 (by decide) ?_
                  refine W.widen (k := 0) (n := 0) (Nat.le_of_ble_eq_true rfl) (Nat.le_of_ble_eq_true rfl) ?_
                  exact W.lret (v := z_8) hx hb hr (fun t ht hW => ⟨⟨z_8, (), rfl, trivial, trivial⟩, hS.F ht⟩) hS.2.2 dX3_ofShells_91
                · have hw_6 : True := hw_6
                  refine lv_if_eq (tgt := 88) hx hb dX3_ofShells_73 (by decide) (fun _ => ?_) (fun c_9 => absurd (by decide) c_9)
                  refine lv_ldc2 (v := (-1)) hx hb hown w__constantLong_RX3_79_1_ dX3_ofShells_88 ?_
                  refine W.widen (k := 0) (n := 0) (Nat.le_of_ble_eq_true rfl) (Nat.le_of_ble_eq_true rfl) ?_
                  exact W.lret (v := (-1)) hx hb hr (fun t ht hW => ⟨⟨(-1), (), rfl, trivial, trivial⟩, hS.F ht⟩) hS.2.2 dX3_ofShells_91
              · rcases (show (p1).toInt = (9 : Int) ∨ ¬ (p1).toInt = (9 : Int) from Classical.em _) with he | he
                · obtain rfl : p1 = 9 := z_eq' he
                  refine lv_tableIn (tgt := 92) hx hb dX3_ofShells_1 (by decide) (by decide) (off := 91) rfl (by decide) ?_
                  refine lv_aload_n hx hb dX3_ofShells_92 rfl (lv_at hl 0 rfl) ?_
                  refine va_get (D := (dC, dI)) (ci := 3) (v := .ref a_pa) (C := RX3) (T := TX3) (N := 10) hx hb hts hiX3 hown hK hP 0 rfl rfl 2 (by decide) w__fieldLink_RX3_39_ShellHeap_Judge_pantry_LShellHeap_Pantry_ (fun _ h9 => h9) rfl dX3_ofShells_93 ?_
                  refine va_get (D := (dC, dI)) (ci := 5) (v := .long pf) (C := RX5) (T := TX5) (N := 10) hx hb hts hiX5 hown hK hP 1 rfl rfl 7 (by decide) w__fieldLink_RX3_139_ShellHeap_Pantry_food_J_ (fun _ h9 => h9) rfl dX3_ofShells_96 ?_
                  refine W.widen (k := 0) (n := 0) (Nat.le_of_ble_eq_true rfl) (Nat.le_of_ble_eq_true rfl) ?_
                  exact W.lret (v := pf) hx hb hr (fun t ht hW => ⟨⟨pf, (), rfl, trivial, trivial⟩, hS.F ht⟩) hS.2.2 dX3_ofShells_99
                · exfalso; omega
