def u_s_X11_noteK : List Cond := .code yX11_note cX11_note 5 (some .int) :: ([.fieldLink RX11 19 "ShellHeap" "book" "LShellHeap$Book;", .methodLink RX11 115 yX0_hasLayer, .instanceMethod yX0_hasLayer, .selects RX0 yX0_hasLayer yX0_hasLayer, .initialized RX0, .methodLink RX11 127 yX0_write, .instanceMethod yX0_write, .selects RX0 yX0_write yX0_write] ++ (wsX110 ++ (u_s_X0_hasLayerA ++ (u_s_X0_writeK ++ []))))
set_option maxRecDepth 20000 in
theorem gw_s_X11_noteK_s_X0_hasLayerA_115 : GoodIn u_s_X11_noteK (wsV RX11 115 RX0 yX0_hasLayer u_s_X0_hasLayerA) := z_gV (z_gr _ [2, 3, 4, 5] rfl (by decide +kernel)) (fun w h => ⟨z_mc (z_mr (z_mr (z_ml h))), gd_s_X0_hasLayerA w h⟩)
set_option maxRecDepth 20000 in
theorem gw_s_X11_noteK_s_X0_writeK_127 : GoodIn u_s_X11_noteK (wsV RX11 127 RX0 yX0_write u_s_X0_writeK) := z_gV (z_gr _ [6, 7, 8, 5] rfl (by decide +kernel)) (fun w h => ⟨z_mc (z_mr (z_mr (z_mr (z_ml h)))), gd_s_X0_writeK w h⟩)
set_option maxHeartbeats 4000000 in
set_option maxRecDepth 100000 in
theorem s_X11_noteK (l : Launch) (dC : Nat → ClassId) (dI : Nat → Nat → Nat) (sz : Nat) (h0 : Nat) (p1 : Int32) (p2 : Int32) (p3 : Int32) (p4 : Int32) (h0_0 : Value) (h1 : Nat) (h0_2 : Value) (h0_3 : Value) (h0_4 : Value) (h0_5 : Value) (h0_6 : Value) (h0_7 : Value) (h0_8 : Value) (h0_9 : Value) (hs : Nat) (ha : Nat) (hb9 : Nat) (hc9 : Nat) (bn : Int32) (bl : Int32) (chs : ClassId) (fhs : Nat → Int32) (cha : ClassId) (fha : Nat → Int32) (chb9 : ClassId) (fhb9 : Nat → Int32) (chc9 : ClassId) (fhc9 : Nat → Int32) (hB_bn : ((0 : Int) ≤ (bn).toInt ∧ (bn).toInt ≤ (80 : Int))) (hB_bl : ((0 : Int) ≤ (bl).toInt ∧ (bl).toInt ≤ (12 : Int))) (hI_ha : ∀ j : Nat, ((0 : Int) ≤ (fha j).toInt ∧ (fha j).toInt ≤ (79 : Int))) (hR : ∀ j : Nat, z_rel (fhs j) (fha j) (fhb9 j)) : Met l yX11_note u_s_X11_noteK ({ frames := 2, cells := 0, slots := 0, locals := 44 }) (va_Pc [.ref h0, .int p1, .int p2, .int p3, .int p4] (z_C (dC, dI) vwCl [(h0, .inr (11, [h0_0, .ref h1, h0_2, h0_3, h0_4, h0_5, h0_6, h0_7, h0_8, h0_9])), (h1, .inr (0, [.ref hs, .ref ha, .ref hb9, .ref hc9, .int bn, .int bl])), (hs, .inl (chs, 80, .inl fhs)), (ha, .inl (cha, 80, .inl fha)), (hb9, .inl (chb9, 80, .inl fhb9)), (hc9, .inl (chc9, 80, .inl fhc9))] [(chs, .int), (cha, .int), (chb9, .int), (chc9, .int)] sz)) (va_Qi (fun (r : Int32) (_ : Unit) => r = v_noA bl bn p1 p2 p3 p4) (fun (_ : Unit) (t : State) => ∃ (n_h1_notes : Int32), ∃ (g_hs : Nat → Int32), ∃ (g_ha : Nat → Int32), ∃ (g_hb9 : Nat → Int32), ∃ (g_hc9 : Nat → Int32), ((0 : Int) ≤ (n_h1_notes).toInt ∧ (n_h1_notes).toInt ≤ (80 : Int)) ∧ (∀ j : Nat, ((0 : Int) ≤ (g_ha j).toInt ∧ (g_ha j).toInt ≤ (79 : Int))) ∧ (∀ j : Nat, z_rel (g_hs j) (g_ha j) (g_hb9 j)) ∧ (n_h1_notes = v_noN bl bn p1 p2 p3 p4) ∧ (g_hs = v_up (v_nok bl bn p1 p2 p3 p4) fhs bn p1) ∧ (g_ha = v_up (v_nok bl bn p1 p2 p3 p4) fha bn p2) ∧ (g_hb9 = v_up (v_nok bl bn p1 p2 p3 p4) fhb9 bn p3) ∧ (g_hc9 = v_up (v_nok bl bn p1 p2 p3 p4) fhc9 bn (v_c3 p1 p4)) ∧ va_P (dC, dI) vwCl [(h0, .inr (11, [h0_0, .ref h1, h0_2, h0_3, h0_4, h0_5, h0_6, h0_7, h0_8, h0_9])), (h1, .inr (0, [.ref hs, .ref ha, .ref hb9, .ref hc9, .int n_h1_notes, .int bl])), (hs, .inl (chs, 80, .inl g_hs)), (ha, .inl (cha, 80, .inl g_ha)), (hb9, .inl (chb9, 80, .inl g_hb9)), (hc9, .inl (chc9, 80, .inl g_hc9))] t.heap ∧ va_K (dC, dI) vwCl [] t ∧ va_D (va_A [(h0, .inr (11, [h0_0, .ref h1, h0_2, h0_3, h0_4, h0_5, h0_6, h0_7, h0_8, h0_9])), (h1, .inr (0, [.ref hs, .ref ha, .ref hb9, .ref hc9, .int bn, .int bl])), (hs, .inl (chs, 80, .inl fhs)), (ha, .inl (cha, 80, .inl fha)), (hb9, .inl (chb9, 80, .inl fhb9)), (hc9, .inl (chc9, 80, .inl fhc9))] sz) [(h0, .inr (11, [h0_0, .ref h1, h0_2, h0_3, h0_4, h0_5, h0_6, h0_7, h0_8, h0_9])), (h1, .inr (0, [.ref hs, .ref ha, .ref hb9, .ref hc9, .int n_h1_notes, .int bl])), (hs, .inl (chs, 80, .inl g_hs)), (ha, .inl (cha, 80, .inl g_ha)), (hb9, .inl (chb9, 80, .inl g_hb9)), (hc9, .inl (chc9, 80, .inl g_hc9))]) (va_A [(h0, .inr (11, [h0_0, .ref h1, h0_2, h0_3, h0_4, h0_5, h0_6, h0_7, h0_8, h0_9])), (h1, .inr (0, [.ref hs, .ref ha, .ref hb9, .ref hc9, .int bn, .int bl])), (hs, .inl (chs, 80, .inl fhs)), (ha, .inl (cha, 80, .inl fha)), (hb9, .inl (chb9, 80, .inl fhb9)), (hc9, .inl (chc9, 80, .inl fhc9))] sz)) 0 0 (va_A [(h0, .inr (11, [h0_0, .ref h1, h0_2, h0_3, h0_4, h0_5, h0_6, h0_7, h0_8, h0_9])), (h1, .inr (0, [.ref hs, .ref ha, .ref hb9, .ref hc9, .int bn, .int bl])), (hs, .inl (chs, 80, .inl fhs)), (ha, .inl (cha, 80, .inl fha)), (hb9, .inl (chb9, 80, .inl fhb9)), (hc9, .inl (chc9, 80, .inl fhc9))] sz) := by
  refine Met.ofW (cc := cX11_note) (maxL := 5) (ret := (some .int)) (by decide) rfl ?_
  intro p e s m args below meth c s₁ B hml hv
  obtain ⟨rfl, hsz, hP, hK, hD0⟩ := hv
  have hx := B.exec
  have hb := B.bytes
  have hr := B.returns
  have hts := atoms_spec (ws := u_s_X11_noteK) B.pre
  have hown : s.vm.findClass RX11 = some m.cls := findClass_of_methodNamed B.named
  have hlocks := B.notSynchronized
  subst hsz
  have hD := hD0.self (sz := s.heap.size)
  generalize hAe : va_A [(h0, .inr (11, [h0_0, .ref h1, h0_2, h0_3, h0_4, h0_5, h0_6, h0_7, h0_8, h0_9])), (h1, .inr (0, [.ref hs, .ref ha, .ref hb9, .ref hc9, .int bn, .int bl])), (hs, .inl (chs, 80, .inl fhs)), (ha, .inl (cha, 80, .inl fha)), (hb9, .inl (chb9, 80, .inl fhb9)), (hc9, .inl (chc9, 80, .inl fhc9))] s.heap.size = A at hD ⊢
  have hA : ∀ q : Nat, s.heap.size ≤ q → A q := fun q h => by rw [← hAe]; exact Or.inr h
  have hS : va_S A s.heap s.heap [] := va_S.rf
  have hP : va_P (dC, dI) vwCl [(h0, .inr (11, [h0_0, .ref h1, h0_2, h0_3, h0_4, h0_5, h0_6, h0_7, h0_8, h0_9])), (h1, .inr (0, [.ref hs, .ref ha, .ref hb9, .ref hc9, .int bn, .int bl])), (hs, .inl (chs, 80, .inl fhs)), (ha, .inl (cha, 80, .inl fha)), (hb9, .inl (chb9, 80, .inl fhb9)), (hc9, .inl (chc9, 80, .inl fhc9))] s.heap := hP
  have w__fieldLink_RX11_19_ShellHeap_book_LShellHeap_Book_ := hts (.fieldLink RX11 19 "ShellHeap" "book" "LShellHeap$Book;") (z_mc (z_ml z_m0))
  have hiX11 := show ∀ w ∈ u_ws RX11 TX11 10, w ∈ u_s_X11_noteK from fun w h => z_mc (z_mr (z_ml h))
  have krr_p1 := z_rng p1
  have krr_p2 := z_rng p2
  have krr_p3 := z_rng p3
  have krr_p4 := z_rng p4
  have hl := lv_entry ([.ref h0, .int p1, .int p2, .int p3, .int p4]) (n := 5) (Nat.le_of_ble_eq_true rfl)
  rw [lg_entry_eq]
  generalize (lg_sl ([.ref h0, .int p1, .int p2, .int p3, .int p4]) ++ List.replicate (5 - (lg_sl ([.ref h0, .int p1, .int p2, .int p3, .int p4])).length) Slot.unset).toArray = ls at hl ⊢
  have hl : lv_has ls 5 [(0, .ref h0), (1, .int p1), (2, .int p2), (3, .int p3), (4, .int p4)] := hl
  refine lv_aload_n hx hb dX11_note_0 rfl (lv_at hl 0 rfl) ?_
  refine va_get (D := (dC, dI)) (ci := 11) (v := .ref h1) (C := RX11) (T := TX11) (N := 10) hx hb hts hiX11 hown hK hP 0 rfl rfl 1 (by decide) w__fieldLink_RX11_19_ShellHeap_book_LShellHeap_Book_ (fun _ h9 => h9) rfl dX11_note_1 ?_
  refine lv_iload_n hx hb dX11_note_4 rfl (lv_at hl 2 rfl) ?_
  obtain ⟨hPc, hDc⟩ := z_sub2 (ws' := [(h1, .inr (0, [.ref hs, .ref ha, .ref hb9, .ref hc9, .int bn, .int bl]))]) hP hD [1] (by decide) rfl
  have hKc := hK.sub (tys' := []) [] rfl
  have hFc := va_free (ws := []) (wc := []) (z_D0 _) hS hA [] rfl
  refine va_calli (va_runV (As := [.int p2]) (rest := []) ⟨hx, hb, hml, hown, hts⟩ (s_X0_hasLayerA l dC dI s.heap.size h1 p2 (.ref hs) (.ref ha) (.ref hb9) (.ref hc9) (.int bn) bl hB_bl) (cwV 1 hts gw_s_X11_noteK_s_X0_hasLayerA_115 rfl rfl rfl (by decide +kernel) ⟨Nat.le_of_ble_eq_true rfl, Nat.le_of_ble_eq_true rfl⟩) ⟨z_blind, va_recv hKc hPc (ci := 0) (q0 := 0) rfl rfl, z_pre hPc hKc hDc⟩ rfl rfl hl.1 rfl (lv_room (Nat.le_of_ble_eq_true rfl)) dX11_note_5 ⟨Nat.le_of_ble_eq_true rfl, Nat.le_of_ble_eq_true rfl⟩) hS (fun q _ h => hFc q h) hFc (fun r_2 u t H_1 locs ht hvm hw_3 hB hz1 hk1 hS => ?_)
  replace hP := z_pure hP hk1
  clear hPc hDc hKc
  rcases hw_3 with ⟨rfl, hw_3⟩ | ⟨rfl, hw_3⟩
  · have hw_3 : (0 ≤ p2.toInt ∧ p2.toInt < bl.toInt) := hw_3
    refine lv_if_ne (tgt := 13) hx hb dX11_note_8 (by decide) (fun _ => ?_) (fun c_4 => absurd c_4 (by decide))
    refine lv_iload_n hx hb dX11_note_13 rfl (lv_at hl 1 rfl) ?_
    refine lv_iconst (v := 3) hx hb dX11_note_14 (by decide) ?_
    refine lv_icmp_ne (tgt := 53) hx hb dX11_note_15 (by decide) (fun c_5 => ?_) (fun c_5 => ?_)
    · have k_6 : (p1).toInt ≠ (3 : Int) := z_ne c_5
      refine lv_iload_n hx hb dX11_note_53 rfl (lv_at hl 1 rfl) ?_
      refine lv_if_eq (tgt := 69) hx hb dX11_note_54 (by decide) (fun c_7 => ?_) (fun c_7 => ?_)
      · have k_8 : (p1).toInt = (0 : Int) := z_eq c_7
        refine lv_aload_n hx hb dX11_note_69 rfl (lv_at hl 0 rfl) ?_
        refine va_get (D := (dC, dI)) (ci := 11) (v := .ref h1) (C := RX11) (T := TX11) (N := 10) hx hb hts hiX11 hown hK hP 0 rfl rfl 1 (by decide) w__fieldLink_RX11_19_ShellHeap_book_LShellHeap_Book_ (fun _ h9 => h9) rfl dX11_note_70 ?_
        refine lv_iload_n hx hb dX11_note_73 rfl (lv_at hl 3 rfl) ?_
        obtain ⟨hPc, hDc⟩ := z_sub2 (ws' := [(h1, .inr (0, [.ref hs, .ref ha, .ref hb9, .ref hc9, .int bn, .int bl]))]) hP hD [1] (by decide) rfl
        have hKc := hK.sub (tys' := []) [] rfl
        have hFc := va_free (ws := []) (wc := []) (z_D0 _) hS hA [] rfl
        refine va_calli (va_runV (As := [.int p3]) (rest := []) ⟨hx, hb, hml, hown, hts⟩ (s_X0_hasLayerA l dC dI H_1.size h1 p3 (.ref hs) (.ref ha) (.ref hb9) (.ref hc9) (.int bn) bl hB_bl) (cwV 1 hts gw_s_X11_noteK_s_X0_hasLayerA_115 rfl rfl rfl (by decide +kernel) ⟨Nat.le_of_ble_eq_true rfl, Nat.le_of_ble_eq_true rfl⟩) ⟨z_blind, va_recv hKc hPc (ci := 0) (q0 := 0) rfl rfl, z_pre hPc hKc hDc⟩ rfl rfl hl.1 rfl (lv_room (Nat.le_of_ble_eq_true rfl)) dX11_note_74 ⟨Nat.le_of_ble_eq_true rfl, Nat.le_of_ble_eq_true rfl⟩) hS (fun q _ h => hFc q h) hFc (fun r_10 u t H_9 locs ht hvm hw_11 hB hz1 hk1 hS => ?_)
        replace hP := z_pure hP hk1
        clear hPc hDc hKc
        rcases hw_11 with ⟨rfl, hw_11⟩ | ⟨rfl, hw_11⟩
        · have hw_11 : (0 ≤ p3.toInt ∧ p3.toInt < bl.toInt) := hw_11
          refine lv_if_eq (tgt := 99) hx hb dX11_note_77 (by decide) (fun c_12 => absurd c_12 (by decide)) (fun _ => ?_)
          refine lv_iload_n hx hb dX11_note_80 rfl (lv_at hl 2 rfl) ?_
          refine lv_iload_n hx hb dX11_note_81 rfl (lv_at hl 3 rfl) ?_
          refine lv_icmp_eq (tgt := 99) hx hb dX11_note_82 (by decide) (fun c_13 => ?_) (fun c_13 => ?_)
          · have k_14 : (p2).toInt = (p3).toInt := z_eq c_13
            refine lv_iconst (v := (-1)) hx hb dX11_note_99 (by decide) ?_
            have hP9 := hP
            have hD9 := hD
            have hK9 := hK.sub (tys' := []) [] rfl
            refine W.widen (k := 0) (n := 0) (Nat.le_of_ble_eq_true rfl) (Nat.le_of_ble_eq_true rfl) ?_
            exact W.iret (v := (-1)) hx hb hr (fun t ht hW => ⟨⟨(-1), (), rfl, (show (-1) = v_noA bl bn p1 p2 p3 p4 from (v_noA_n (by unfold v_nok; omega)).symm), ⟨bn, fhs, fha, fhb9, fhc9, hB_bn, hI_ha, hR, (show bn = v_noN bl bn p1 p2 p3 p4 from (v_noN_n (by unfold v_nok; omega)).symm), (show fhs = v_up (v_nok bl bn p1 p2 p3 p4) fhs bn p1 from (v_up_n (by unfold v_nok; omega)).symm), (show fha = v_up (v_nok bl bn p1 p2 p3 p4) fha bn p2 from (v_up_n (by unfold v_nok; omega)).symm), (show fhb9 = v_up (v_nok bl bn p1 p2 p3 p4) fhb9 bn p3 from (v_up_n (by unfold v_nok; omega)).symm), (show fhc9 = v_up (v_nok bl bn p1 p2 p3 p4) fhc9 bn (v_c3 p1 p4) from (v_up_n (by unfold v_nok; omega)).symm), by rw [ht]; exact hP9, va_K.moved hW.alike hK9, hD9⟩⟩, hS.F ht⟩) hS.2.2 dX11_note_100
          · have k_15 : (p2).toInt ≠ (p3).toInt := z_ne c_13
            refine lv_aload_n hx hb dX11_note_85 rfl (lv_at hl 0 rfl) ?_
            refine va_get (D := (dC, dI)) (ci := 11) (v := .ref h1) (C := RX11) (T := TX11) (N := 10) hx hb hts hiX11 hown hK hP 0 rfl rfl 1 (by decide) w__fieldLink_RX11_19_ShellHeap_book_LShellHeap_Book_ (fun _ h9 => h9) rfl dX11_note_86 ?_
            refine lv_iload_n hx hb dX11_note_89 rfl (lv_at hl 1 rfl) ?_
            refine lv_iload_n hx hb dX11_note_90 rfl (lv_at hl 2 rfl) ?_
            refine lv_iload_n hx hb dX11_note_91 rfl (lv_at hl 3 rfl) ?_
            refine lv_iconst (v := 0) hx hb dX11_note_92 (by decide) ?_
            obtain ⟨hPc, hDc, hFc⟩ := z_sub3 (ws' := [(h1, .inr (0, [.ref hs, .ref ha, .ref hb9, .ref hc9, .int bn, .int bl])), (hs, .inl (chs, 80, .inl fhs)), (ha, .inl (cha, 80, .inl fha)), (hb9, .inl (chb9, 80, .inl fhb9)), (hc9, .inl (chc9, 80, .inl fhc9))]) hP hD hS hA [1, 2, 3, 4, 5] (by decide) rfl
            have hKc := hK
            refine va_calli (va_runV (As := [.int p1, .int p2, .int p3, .int 0]) (rest := []) ⟨hx, hb, hml, hown, hts⟩ (s_X0_writeK l dC dI H_9.size h1 p1 p2 p3 0 hs ha hb9 hc9 bn (.int bl) chs fhs cha fha chb9 fhb9 chc9 fhc9 hB_bn (by first | omega | decide) hI_ha hR (show ((0 : Int) ≤ (p2).toInt ∧ (p2).toInt ≤ (79 : Int)) ∧ ((p1).toInt ≠ (5 : Int) → (p2).toInt ≤ (11 : Int)) ∧ ((p1).toInt ≤ (2 : Int) → (0 : Int) ≤ (p3).toInt ∧ (p3).toInt ≤ (11 : Int)) by omega)) (cwV 4 hts gw_s_X11_noteK_s_X0_writeK_127 rfl rfl rfl (by decide +kernel) ⟨Nat.le_of_ble_eq_true rfl, Nat.le_of_ble_eq_true rfl⟩) ⟨z_blind, va_recv hKc hPc (ci := 0) (q0 := 0) rfl rfl, z_pre hPc hKc hDc⟩ rfl rfl hl.1 rfl (lv_room (Nat.le_of_ble_eq_true rfl)) dX11_note_93 ⟨Nat.le_of_ble_eq_true rfl, Nat.le_of_ble_eq_true rfl⟩) hS (fun q _ h => hFc q h) hFc (fun r_17 u t H_16 locs ht hvm hw_18 hB hz1 hk1 hS => ?_)
            obtain ⟨n_h0_notes_19, g_hs_20, g_ha_21, g_hb9_22, g_hc9_23, hp_24, hp_25, hp_26, hp_27, hp_28, hp_29, hp_30, hp_31, hP1, hK1, hD1⟩ := hB
            rw [ht] at hP1
            have hK1 := va_K.moved hvm.symm hK1
            obtain ⟨hP, hD⟩ := z_ap_1 (va_join (wr := [(h0, .inr (11, [h0_0, .ref h1, h0_2, h0_3, h0_4, h0_5, h0_6, h0_7, h0_8, h0_9]))]) hP hD [1, 2, 3, 4, 5] [0] rfl rfl (by decide) (by decide) hk1 hFc hP1 hD1)
            have hR := hp_26
            have hp_27 : n_h0_notes_19 = v_wrN bn := hp_27
            have hp_28 : g_hs_20 = v_up (bn.toInt < 80) fhs bn p1 := hp_28
            have hp_29 : g_ha_21 = v_up (bn.toInt < 80) fha bn p2 := hp_29
            have hp_30 : g_hb9_22 = v_up (bn.toInt < 80) fhb9 bn p3 := hp_30
            have hp_31 : g_hc9_23 = v_up (bn.toInt < 80) fhc9 bn 0 := hp_31
            clear hPc hDc hKc
            refine lv_goto (tgt := 100) hx hb dX11_note_96 (by decide) ?_
            have hP9 := hP
            have hD9 := hD
            have hK9 := hK.sub (tys' := []) [] rfl
            refine W.widen (k := 0) (n := 0) (Nat.le_of_ble_eq_true rfl) (Nat.le_of_ble_eq_true rfl) ?_
            exact W.iret (v := r_17) hx hb hr (fun t ht hW => ⟨⟨r_17, (), rfl, (show r_17 = v_noA bl bn p1 p2 p3 p4 from v_noA_w hw_18 (by unfold v_nok; omega)), ⟨n_h0_notes_19, g_hs_20, g_ha_21, g_hb9_22, g_hc9_23, hp_24, hp_25, hR, (show n_h0_notes_19 = v_noN bl bn p1 p2 p3 p4 from v_noN_w hp_27 (by unfold v_nok; omega)), (show g_hs_20 = v_up (v_nok bl bn p1 p2 p3 p4) fhs bn p1 from hp_28.trans (v_up_c (by unfold v_nok; omega) rfl)), (show g_ha_21 = v_up (v_nok bl bn p1 p2 p3 p4) fha bn p2 from hp_29.trans (v_up_c (by unfold v_nok; omega) rfl)), (show g_hb9_22 = v_up (v_nok bl bn p1 p2 p3 p4) fhb9 bn p3 from hp_30.trans (v_up_c (by unfold v_nok; omega) rfl)), (show g_hc9_23 = v_up (v_nok bl bn p1 p2 p3 p4) fhc9 bn (v_c3 p1 p4) from hp_31.trans (v_up_c (by unfold v_nok; omega) (v_c3_n (by omega)).symm)), by rw [ht]; exact hP9, va_K.moved hW.alike hK9, hD9⟩⟩, hS.F ht⟩) hS.2.2 dX11_note_100
        · have hw_11 : ¬ (0 ≤ p3.toInt ∧ p3.toInt < bl.toInt) := hw_11
          refine lv_if_eq (tgt := 99) hx hb dX11_note_77 (by decide) (fun _ => ?_) (fun c_32 => absurd (by decide) c_32)
          refine lv_iconst (v := (-1)) hx hb dX11_note_99 (by decide) ?_
          have hP9 := hP
          have hD9 := hD
          have hK9 := hK.sub (tys' := []) [] rfl
          refine W.widen (k := 0) (n := 0) (Nat.le_of_ble_eq_true rfl) (Nat.le_of_ble_eq_true rfl) ?_
          exact W.iret (v := (-1)) hx hb hr (fun t ht hW => ⟨⟨(-1), (), rfl, (show (-1) = v_noA bl bn p1 p2 p3 p4 from (v_noA_n (by unfold v_nok; omega)).symm), ⟨bn, fhs, fha, fhb9, fhc9, hB_bn, hI_ha, hR, (show bn = v_noN bl bn p1 p2 p3 p4 from (v_noN_n (by unfold v_nok; omega)).symm), (show fhs = v_up (v_nok bl bn p1 p2 p3 p4) fhs bn p1 from (v_up_n (by unfold v_nok; omega)).symm), (show fha = v_up (v_nok bl bn p1 p2 p3 p4) fha bn p2 from (v_up_n (by unfold v_nok; omega)).symm), (show fhb9 = v_up (v_nok bl bn p1 p2 p3 p4) fhb9 bn p3 from (v_up_n (by unfold v_nok; omega)).symm), (show fhc9 = v_up (v_nok bl bn p1 p2 p3 p4) fhc9 bn (v_c3 p1 p4) from (v_up_n (by unfold v_nok; omega)).symm), by rw [ht]; exact hP9, va_K.moved hW.alike hK9, hD9⟩⟩, hS.F ht⟩) hS.2.2 dX11_note_100
      · have k_33 : (p1).toInt ≠ (0 : Int) := z_ne c_7
        refine lv_iload_n hx hb dX11_note_57 rfl (lv_at hl 1 rfl) ?_
        refine lv_iconst (v := 1) hx hb dX11_note_58 (by decide) ?_
        refine lv_icmp_eq (tgt := 69) hx hb dX11_note_59 (by decide) (fun c_34 => ?_) (fun c_34 => ?_)
        · have k_35 : (p1).toInt = (1 : Int) := z_eq c_34
          refine lv_aload_n hx hb dX11_note_69 rfl (lv_at hl 0 rfl) ?_
          refine va_get (D := (dC, dI)) (ci := 11) (v := .ref h1) (C := RX11) (T := TX11) (N := 10) hx hb hts hiX11 hown hK hP 0 rfl rfl 1 (by decide) w__fieldLink_RX11_19_ShellHeap_book_LShellHeap_Book_ (fun _ h9 => h9) rfl dX11_note_70 ?_
          refine lv_iload_n hx hb dX11_note_73 rfl (lv_at hl 3 rfl) ?_
          obtain ⟨hPc, hDc⟩ := z_sub2 (ws' := [(h1, .inr (0, [.ref hs, .ref ha, .ref hb9, .ref hc9, .int bn, .int bl]))]) hP hD [1] (by decide) rfl
          have hKc := hK.sub (tys' := []) [] rfl
          have hFc := va_free (ws := []) (wc := []) (z_D0 _) hS hA [] rfl
          refine va_calli (va_runV (As := [.int p3]) (rest := []) ⟨hx, hb, hml, hown, hts⟩ (s_X0_hasLayerA l dC dI H_1.size h1 p3 (.ref hs) (.ref ha) (.ref hb9) (.ref hc9) (.int bn) bl hB_bl) (cwV 1 hts gw_s_X11_noteK_s_X0_hasLayerA_115 rfl rfl rfl (by decide +kernel) ⟨Nat.le_of_ble_eq_true rfl, Nat.le_of_ble_eq_true rfl⟩) ⟨z_blind, va_recv hKc hPc (ci := 0) (q0 := 0) rfl rfl, z_pre hPc hKc hDc⟩ rfl rfl hl.1 rfl (lv_room (Nat.le_of_ble_eq_true rfl)) dX11_note_74 ⟨Nat.le_of_ble_eq_true rfl, Nat.le_of_ble_eq_true rfl⟩) hS (fun q _ h => hFc q h) hFc (fun r_37 u t H_36 locs ht hvm hw_38 hB hz1 hk1 hS => ?_)
          replace hP := z_pure hP hk1
          clear hPc hDc hKc
          rcases hw_38 with ⟨rfl, hw_38⟩ | ⟨rfl, hw_38⟩
          · have hw_38 : (0 ≤ p3.toInt ∧ p3.toInt < bl.toInt) := hw_38
            refine lv_if_eq (tgt := 99) hx hb dX11_note_77 (by decide) (fun c_39 => absurd c_39 (by decide)) (fun _ => ?_)
            refine lv_iload_n hx hb dX11_note_80 rfl (lv_at hl 2 rfl) ?_
            refine lv_iload_n hx hb dX11_note_81 rfl (lv_at hl 3 rfl) ?_
            refine lv_icmp_eq (tgt := 99) hx hb dX11_note_82 (by decide) (fun c_40 => ?_) (fun c_40 => ?_)
            · have k_41 : (p2).toInt = (p3).toInt := z_eq c_40
              refine lv_iconst (v := (-1)) hx hb dX11_note_99 (by decide) ?_
              have hP9 := hP
              have hD9 := hD
              have hK9 := hK.sub (tys' := []) [] rfl
              refine W.widen (k := 0) (n := 0) (Nat.le_of_ble_eq_true rfl) (Nat.le_of_ble_eq_true rfl) ?_
              exact W.iret (v := (-1)) hx hb hr (fun t ht hW => ⟨⟨(-1), (), rfl, (show (-1) = v_noA bl bn p1 p2 p3 p4 from (v_noA_n (by unfold v_nok; omega)).symm), ⟨bn, fhs, fha, fhb9, fhc9, hB_bn, hI_ha, hR, (show bn = v_noN bl bn p1 p2 p3 p4 from (v_noN_n (by unfold v_nok; omega)).symm), (show fhs = v_up (v_nok bl bn p1 p2 p3 p4) fhs bn p1 from (v_up_n (by unfold v_nok; omega)).symm), (show fha = v_up (v_nok bl bn p1 p2 p3 p4) fha bn p2 from (v_up_n (by unfold v_nok; omega)).symm), (show fhb9 = v_up (v_nok bl bn p1 p2 p3 p4) fhb9 bn p3 from (v_up_n (by unfold v_nok; omega)).symm), (show fhc9 = v_up (v_nok bl bn p1 p2 p3 p4) fhc9 bn (v_c3 p1 p4) from (v_up_n (by unfold v_nok; omega)).symm), by rw [ht]; exact hP9, va_K.moved hW.alike hK9, hD9⟩⟩, hS.F ht⟩) hS.2.2 dX11_note_100
            · have k_42 : (p2).toInt ≠ (p3).toInt := z_ne c_40
              refine lv_aload_n hx hb dX11_note_85 rfl (lv_at hl 0 rfl) ?_
              refine va_get (D := (dC, dI)) (ci := 11) (v := .ref h1) (C := RX11) (T := TX11) (N := 10) hx hb hts hiX11 hown hK hP 0 rfl rfl 1 (by decide) w__fieldLink_RX11_19_ShellHeap_book_LShellHeap_Book_ (fun _ h9 => h9) rfl dX11_note_86 ?_
              refine lv_iload_n hx hb dX11_note_89 rfl (lv_at hl 1 rfl) ?_
              refine lv_iload_n hx hb dX11_note_90 rfl (lv_at hl 2 rfl) ?_
              refine lv_iload_n hx hb dX11_note_91 rfl (lv_at hl 3 rfl) ?_
              refine lv_iconst (v := 0) hx hb dX11_note_92 (by decide) ?_
              obtain ⟨hPc, hDc, hFc⟩ := z_sub3 (ws' := [(h1, .inr (0, [.ref hs, .ref ha, .ref hb9, .ref hc9, .int bn, .int bl])), (hs, .inl (chs, 80, .inl fhs)), (ha, .inl (cha, 80, .inl fha)), (hb9, .inl (chb9, 80, .inl fhb9)), (hc9, .inl (chc9, 80, .inl fhc9))]) hP hD hS hA [1, 2, 3, 4, 5] (by decide) rfl
              have hKc := hK
              refine va_calli (va_runV (As := [.int p1, .int p2, .int p3, .int 0]) (rest := []) ⟨hx, hb, hml, hown, hts⟩ (s_X0_writeK l dC dI H_36.size h1 p1 p2 p3 0 hs ha hb9 hc9 bn (.int bl) chs fhs cha fha chb9 fhb9 chc9 fhc9 hB_bn (by first | omega | decide) hI_ha hR (show ((0 : Int) ≤ (p2).toInt ∧ (p2).toInt ≤ (79 : Int)) ∧ ((p1).toInt ≠ (5 : Int) → (p2).toInt ≤ (11 : Int)) ∧ ((p1).toInt ≤ (2 : Int) → (0 : Int) ≤ (p3).toInt ∧ (p3).toInt ≤ (11 : Int)) by omega)) (cwV 4 hts gw_s_X11_noteK_s_X0_writeK_127 rfl rfl rfl (by decide +kernel) ⟨Nat.le_of_ble_eq_true rfl, Nat.le_of_ble_eq_true rfl⟩) ⟨z_blind, va_recv hKc hPc (ci := 0) (q0 := 0) rfl rfl, z_pre hPc hKc hDc⟩ rfl rfl hl.1 rfl (lv_room (Nat.le_of_ble_eq_true rfl)) dX11_note_93 ⟨Nat.le_of_ble_eq_true rfl, Nat.le_of_ble_eq_true rfl⟩) hS (fun q _ h => hFc q h) hFc (fun r_44 u t H_43 locs ht hvm hw_45 hB hz1 hk1 hS => ?_)
              obtain ⟨n_h0_notes_46, g_hs_47, g_ha_48, g_hb9_49, g_hc9_50, hp_51, hp_52, hp_53, hp_54, hp_55, hp_56, hp_57, hp_58, hP1, hK1, hD1⟩ := hB
              rw [ht] at hP1
              have hK1 := va_K.moved hvm.symm hK1
              obtain ⟨hP, hD⟩ := z_ap_1 (va_join (wr := [(h0, .inr (11, [h0_0, .ref h1, h0_2, h0_3, h0_4, h0_5, h0_6, h0_7, h0_8, h0_9]))]) hP hD [1, 2, 3, 4, 5] [0] rfl rfl (by decide) (by decide) hk1 hFc hP1 hD1)
              have hR := hp_53
              have hp_54 : n_h0_notes_46 = v_wrN bn := hp_54
              have hp_55 : g_hs_47 = v_up (bn.toInt < 80) fhs bn p1 := hp_55
              have hp_56 : g_ha_48 = v_up (bn.toInt < 80) fha bn p2 := hp_56
              have hp_57 : g_hb9_49 = v_up (bn.toInt < 80) fhb9 bn p3 := hp_57
              have hp_58 : g_hc9_50 = v_up (bn.toInt < 80) fhc9 bn 0 := hp_58
              clear hPc hDc hKc
              refine lv_goto (tgt := 100) hx hb dX11_note_96 (by decide) ?_
              have hP9 := hP
              have hD9 := hD
              have hK9 := hK.sub (tys' := []) [] rfl
              refine W.widen (k := 0) (n := 0) (Nat.le_of_ble_eq_true rfl) (Nat.le_of_ble_eq_true rfl) ?_
              exact W.iret (v := r_44) hx hb hr (fun t ht hW => ⟨⟨r_44, (), rfl, (show r_44 = v_noA bl bn p1 p2 p3 p4 from v_noA_w hw_45 (by unfold v_nok; omega)), ⟨n_h0_notes_46, g_hs_47, g_ha_48, g_hb9_49, g_hc9_50, hp_51, hp_52, hR, (show n_h0_notes_46 = v_noN bl bn p1 p2 p3 p4 from v_noN_w hp_54 (by unfold v_nok; omega)), (show g_hs_47 = v_up (v_nok bl bn p1 p2 p3 p4) fhs bn p1 from hp_55.trans (v_up_c (by unfold v_nok; omega) rfl)), (show g_ha_48 = v_up (v_nok bl bn p1 p2 p3 p4) fha bn p2 from hp_56.trans (v_up_c (by unfold v_nok; omega) rfl)), (show g_hb9_49 = v_up (v_nok bl bn p1 p2 p3 p4) fhb9 bn p3 from hp_57.trans (v_up_c (by unfold v_nok; omega) rfl)), (show g_hc9_50 = v_up (v_nok bl bn p1 p2 p3 p4) fhc9 bn (v_c3 p1 p4) from hp_58.trans (v_up_c (by unfold v_nok; omega) (v_c3_n (by omega)).symm)), by rw [ht]; exact hP9, va_K.moved hW.alike hK9, hD9⟩⟩, hS.F ht⟩) hS.2.2 dX11_note_100
          · have hw_38 : ¬ (0 ≤ p3.toInt ∧ p3.toInt < bl.toInt) := hw_38
            refine lv_if_eq (tgt := 99) hx hb dX11_note_77 (by decide) (fun _ => ?_) (fun c_59 => absurd (by decide) c_59)
            refine lv_iconst (v := (-1)) hx hb dX11_note_99 (by decide) ?_
            have hP9 := hP
            have hD9 := hD
            have hK9 := hK.sub (tys' := []) [] rfl
            refine W.widen (k := 0) (n := 0) (Nat.le_of_ble_eq_true rfl) (Nat.le_of_ble_eq_true rfl) ?_
            exact W.iret (v := (-1)) hx hb hr (fun t ht hW => ⟨⟨(-1), (), rfl, (show (-1) = v_noA bl bn p1 p2 p3 p4 from (v_noA_n (by unfold v_nok; omega)).symm), ⟨bn, fhs, fha, fhb9, fhc9, hB_bn, hI_ha, hR, (show bn = v_noN bl bn p1 p2 p3 p4 from (v_noN_n (by unfold v_nok; omega)).symm), (show fhs = v_up (v_nok bl bn p1 p2 p3 p4) fhs bn p1 from (v_up_n (by unfold v_nok; omega)).symm), (show fha = v_up (v_nok bl bn p1 p2 p3 p4) fha bn p2 from (v_up_n (by unfold v_nok; omega)).symm), (show fhb9 = v_up (v_nok bl bn p1 p2 p3 p4) fhb9 bn p3 from (v_up_n (by unfold v_nok; omega)).symm), (show fhc9 = v_up (v_nok bl bn p1 p2 p3 p4) fhc9 bn (v_c3 p1 p4) from (v_up_n (by unfold v_nok; omega)).symm), by rw [ht]; exact hP9, va_K.moved hW.alike hK9, hD9⟩⟩, hS.F ht⟩) hS.2.2 dX11_note_100
        · have k_60 : (p1).toInt ≠ (1 : Int) := z_ne c_34
          refine lv_iload_n hx hb dX11_note_62 rfl (lv_at hl 1 rfl) ?_
          refine lv_iconst (v := 2) hx hb dX11_note_63 (by decide) ?_
          refine lv_icmp_eq (tgt := 69) hx hb dX11_note_64 (by decide) (fun c_61 => ?_) (fun c_61 => ?_)
          · have k_62 : (p1).toInt = (2 : Int) := z_eq c_61
            refine lv_aload_n hx hb dX11_note_69 rfl (lv_at hl 0 rfl) ?_
            refine va_get (D := (dC, dI)) (ci := 11) (v := .ref h1) (C := RX11) (T := TX11) (N := 10) hx hb hts hiX11 hown hK hP 0 rfl rfl 1 (by decide) w__fieldLink_RX11_19_ShellHeap_book_LShellHeap_Book_ (fun _ h9 => h9) rfl dX11_note_70 ?_
            refine lv_iload_n hx hb dX11_note_73 rfl (lv_at hl 3 rfl) ?_
            obtain ⟨hPc, hDc⟩ := z_sub2 (ws' := [(h1, .inr (0, [.ref hs, .ref ha, .ref hb9, .ref hc9, .int bn, .int bl]))]) hP hD [1] (by decide) rfl
            have hKc := hK.sub (tys' := []) [] rfl
            have hFc := va_free (ws := []) (wc := []) (z_D0 _) hS hA [] rfl
            refine va_calli (va_runV (As := [.int p3]) (rest := []) ⟨hx, hb, hml, hown, hts⟩ (s_X0_hasLayerA l dC dI H_1.size h1 p3 (.ref hs) (.ref ha) (.ref hb9) (.ref hc9) (.int bn) bl hB_bl) (cwV 1 hts gw_s_X11_noteK_s_X0_hasLayerA_115 rfl rfl rfl (by decide +kernel) ⟨Nat.le_of_ble_eq_true rfl, Nat.le_of_ble_eq_true rfl⟩) ⟨z_blind, va_recv hKc hPc (ci := 0) (q0 := 0) rfl rfl, z_pre hPc hKc hDc⟩ rfl rfl hl.1 rfl (lv_room (Nat.le_of_ble_eq_true rfl)) dX11_note_74 ⟨Nat.le_of_ble_eq_true rfl, Nat.le_of_ble_eq_true rfl⟩) hS (fun q _ h => hFc q h) hFc (fun r_64 u t H_63 locs ht hvm hw_65 hB hz1 hk1 hS => ?_)
            replace hP := z_pure hP hk1
            clear hPc hDc hKc
            rcases hw_65 with ⟨rfl, hw_65⟩ | ⟨rfl, hw_65⟩
            · have hw_65 : (0 ≤ p3.toInt ∧ p3.toInt < bl.toInt) := hw_65
              refine lv_if_eq (tgt := 99) hx hb dX11_note_77 (by decide) (fun c_66 => absurd c_66 (by decide)) (fun _ => ?_)
              refine lv_iload_n hx hb dX11_note_80 rfl (lv_at hl 2 rfl) ?_
              refine lv_iload_n hx hb dX11_note_81 rfl (lv_at hl 3 rfl) ?_
              refine lv_icmp_eq (tgt := 99) hx hb dX11_note_82 (by decide) (fun c_67 => ?_) (fun c_67 => ?_)
              · have k_68 : (p2).toInt = (p3).toInt := z_eq c_67
                refine lv_iconst (v := (-1)) hx hb dX11_note_99 (by decide) ?_
                have hP9 := hP
                have hD9 := hD
                have hK9 := hK.sub (tys' := []) [] rfl
                refine W.widen (k := 0) (n := 0) (Nat.le_of_ble_eq_true rfl) (Nat.le_of_ble_eq_true rfl) ?_
                exact W.iret (v := (-1)) hx hb hr (fun t ht hW => ⟨⟨(-1), (), rfl, (show (-1) = v_noA bl bn p1 p2 p3 p4 from (v_noA_n (by unfold v_nok; omega)).symm), ⟨bn, fhs, fha, fhb9, fhc9, hB_bn, hI_ha, hR, (show bn = v_noN bl bn p1 p2 p3 p4 from (v_noN_n (by unfold v_nok; omega)).symm), (show fhs = v_up (v_nok bl bn p1 p2 p3 p4) fhs bn p1 from (v_up_n (by unfold v_nok; omega)).symm), (show fha = v_up (v_nok bl bn p1 p2 p3 p4) fha bn p2 from (v_up_n (by unfold v_nok; omega)).symm), (show fhb9 = v_up (v_nok bl bn p1 p2 p3 p4) fhb9 bn p3 from (v_up_n (by unfold v_nok; omega)).symm), (show fhc9 = v_up (v_nok bl bn p1 p2 p3 p4) fhc9 bn (v_c3 p1 p4) from (v_up_n (by unfold v_nok; omega)).symm), by rw [ht]; exact hP9, va_K.moved hW.alike hK9, hD9⟩⟩, hS.F ht⟩) hS.2.2 dX11_note_100
              · have k_69 : (p2).toInt ≠ (p3).toInt := z_ne c_67
                refine lv_aload_n hx hb dX11_note_85 rfl (lv_at hl 0 rfl) ?_
                refine va_get (D := (dC, dI)) (ci := 11) (v := .ref h1) (C := RX11) (T := TX11) (N := 10) hx hb hts hiX11 hown hK hP 0 rfl rfl 1 (by decide) w__fieldLink_RX11_19_ShellHeap_book_LShellHeap_Book_ (fun _ h9 => h9) rfl dX11_note_86 ?_
                refine lv_iload_n hx hb dX11_note_89 rfl (lv_at hl 1 rfl) ?_
                refine lv_iload_n hx hb dX11_note_90 rfl (lv_at hl 2 rfl) ?_
                refine lv_iload_n hx hb dX11_note_91 rfl (lv_at hl 3 rfl) ?_
                refine lv_iconst (v := 0) hx hb dX11_note_92 (by decide) ?_
                obtain ⟨hPc, hDc, hFc⟩ := z_sub3 (ws' := [(h1, .inr (0, [.ref hs, .ref ha, .ref hb9, .ref hc9, .int bn, .int bl])), (hs, .inl (chs, 80, .inl fhs)), (ha, .inl (cha, 80, .inl fha)), (hb9, .inl (chb9, 80, .inl fhb9)), (hc9, .inl (chc9, 80, .inl fhc9))]) hP hD hS hA [1, 2, 3, 4, 5] (by decide) rfl
                have hKc := hK
                refine va_calli (va_runV (As := [.int p1, .int p2, .int p3, .int 0]) (rest := []) ⟨hx, hb, hml, hown, hts⟩ (s_X0_writeK l dC dI H_63.size h1 p1 p2 p3 0 hs ha hb9 hc9 bn (.int bl) chs fhs cha fha chb9 fhb9 chc9 fhc9 hB_bn (by first | omega | decide) hI_ha hR (show ((0 : Int) ≤ (p2).toInt ∧ (p2).toInt ≤ (79 : Int)) ∧ ((p1).toInt ≠ (5 : Int) → (p2).toInt ≤ (11 : Int)) ∧ ((p1).toInt ≤ (2 : Int) → (0 : Int) ≤ (p3).toInt ∧ (p3).toInt ≤ (11 : Int)) by omega)) (cwV 4 hts gw_s_X11_noteK_s_X0_writeK_127 rfl rfl rfl (by decide +kernel) ⟨Nat.le_of_ble_eq_true rfl, Nat.le_of_ble_eq_true rfl⟩) ⟨z_blind, va_recv hKc hPc (ci := 0) (q0 := 0) rfl rfl, z_pre hPc hKc hDc⟩ rfl rfl hl.1 rfl (lv_room (Nat.le_of_ble_eq_true rfl)) dX11_note_93 ⟨Nat.le_of_ble_eq_true rfl, Nat.le_of_ble_eq_true rfl⟩) hS (fun q _ h => hFc q h) hFc (fun r_71 u t H_70 locs ht hvm hw_72 hB hz1 hk1 hS => ?_)
                obtain ⟨n_h0_notes_73, g_hs_74, g_ha_75, g_hb9_76, g_hc9_77, hp_78, hp_79, hp_80, hp_81, hp_82, hp_83, hp_84, hp_85, hP1, hK1, hD1⟩ := hB
                rw [ht] at hP1
                have hK1 := va_K.moved hvm.symm hK1
                obtain ⟨hP, hD⟩ := z_ap_1 (va_join (wr := [(h0, .inr (11, [h0_0, .ref h1, h0_2, h0_3, h0_4, h0_5, h0_6, h0_7, h0_8, h0_9]))]) hP hD [1, 2, 3, 4, 5] [0] rfl rfl (by decide) (by decide) hk1 hFc hP1 hD1)
                have hR := hp_80
                have hp_81 : n_h0_notes_73 = v_wrN bn := hp_81
                have hp_82 : g_hs_74 = v_up (bn.toInt < 80) fhs bn p1 := hp_82
                have hp_83 : g_ha_75 = v_up (bn.toInt < 80) fha bn p2 := hp_83
                have hp_84 : g_hb9_76 = v_up (bn.toInt < 80) fhb9 bn p3 := hp_84
                have hp_85 : g_hc9_77 = v_up (bn.toInt < 80) fhc9 bn 0 := hp_85
                clear hPc hDc hKc
                refine lv_goto (tgt := 100) hx hb dX11_note_96 (by decide) ?_
                have hP9 := hP
                have hD9 := hD
                have hK9 := hK.sub (tys' := []) [] rfl
                refine W.widen (k := 0) (n := 0) (Nat.le_of_ble_eq_true rfl) (Nat.le_of_ble_eq_true rfl) ?_
                exact W.iret (v := r_71) hx hb hr (fun t ht hW => ⟨⟨r_71, (), rfl, (show r_71 = v_noA bl bn p1 p2 p3 p4 from v_noA_w hw_72 (by unfold v_nok; omega)), ⟨n_h0_notes_73, g_hs_74, g_ha_75, g_hb9_76, g_hc9_77, hp_78, hp_79, hR, (show n_h0_notes_73 = v_noN bl bn p1 p2 p3 p4 from v_noN_w hp_81 (by unfold v_nok; omega)), (show g_hs_74 = v_up (v_nok bl bn p1 p2 p3 p4) fhs bn p1 from hp_82.trans (v_up_c (by unfold v_nok; omega) rfl)), (show g_ha_75 = v_up (v_nok bl bn p1 p2 p3 p4) fha bn p2 from hp_83.trans (v_up_c (by unfold v_nok; omega) rfl)), (show g_hb9_76 = v_up (v_nok bl bn p1 p2 p3 p4) fhb9 bn p3 from hp_84.trans (v_up_c (by unfold v_nok; omega) rfl)), (show g_hc9_77 = v_up (v_nok bl bn p1 p2 p3 p4) fhc9 bn (v_c3 p1 p4) from hp_85.trans (v_up_c (by unfold v_nok; omega) (v_c3_n (by omega)).symm)), by rw [ht]; exact hP9, va_K.moved hW.alike hK9, hD9⟩⟩, hS.F ht⟩) hS.2.2 dX11_note_100
            · have hw_65 : ¬ (0 ≤ p3.toInt ∧ p3.toInt < bl.toInt) := hw_65
              refine lv_if_eq (tgt := 99) hx hb dX11_note_77 (by decide) (fun _ => ?_) (fun c_86 => absurd (by decide) c_86)
              refine lv_iconst (v := (-1)) hx hb dX11_note_99 (by decide) ?_
              have hP9 := hP
              have hD9 := hD
              have hK9 := hK.sub (tys' := []) [] rfl
              refine W.widen (k := 0) (n := 0) (Nat.le_of_ble_eq_true rfl) (Nat.le_of_ble_eq_true rfl) ?_
              exact W.iret (v := (-1)) hx hb hr (fun t ht hW => ⟨⟨(-1), (), rfl, (show (-1) = v_noA bl bn p1 p2 p3 p4 from (v_noA_n (by unfold v_nok; omega)).symm), ⟨bn, fhs, fha, fhb9, fhc9, hB_bn, hI_ha, hR, (show bn = v_noN bl bn p1 p2 p3 p4 from (v_noN_n (by unfold v_nok; omega)).symm), (show fhs = v_up (v_nok bl bn p1 p2 p3 p4) fhs bn p1 from (v_up_n (by unfold v_nok; omega)).symm), (show fha = v_up (v_nok bl bn p1 p2 p3 p4) fha bn p2 from (v_up_n (by unfold v_nok; omega)).symm), (show fhb9 = v_up (v_nok bl bn p1 p2 p3 p4) fhb9 bn p3 from (v_up_n (by unfold v_nok; omega)).symm), (show fhc9 = v_up (v_nok bl bn p1 p2 p3 p4) fhc9 bn (v_c3 p1 p4) from (v_up_n (by unfold v_nok; omega)).symm), by rw [ht]; exact hP9, va_K.moved hW.alike hK9, hD9⟩⟩, hS.F ht⟩) hS.2.2 dX11_note_100
          · have k_87 : (p1).toInt ≠ (2 : Int) := z_ne c_61
            refine lv_iconst (v := (-1)) hx hb dX11_note_67 (by decide) ?_
            have hP9 := hP
            have hD9 := hD
            have hK9 := hK.sub (tys' := []) [] rfl
            refine W.widen (k := 0) (n := 0) (Nat.le_of_ble_eq_true rfl) (Nat.le_of_ble_eq_true rfl) ?_
            exact W.iret (v := (-1)) hx hb hr (fun t ht hW => ⟨⟨(-1), (), rfl, (show (-1) = v_noA bl bn p1 p2 p3 p4 from (v_noA_n (by unfold v_nok; omega)).symm), ⟨bn, fhs, fha, fhb9, fhc9, hB_bn, hI_ha, hR, (show bn = v_noN bl bn p1 p2 p3 p4 from (v_noN_n (by unfold v_nok; omega)).symm), (show fhs = v_up (v_nok bl bn p1 p2 p3 p4) fhs bn p1 from (v_up_n (by unfold v_nok; omega)).symm), (show fha = v_up (v_nok bl bn p1 p2 p3 p4) fha bn p2 from (v_up_n (by unfold v_nok; omega)).symm), (show fhb9 = v_up (v_nok bl bn p1 p2 p3 p4) fhb9 bn p3 from (v_up_n (by unfold v_nok; omega)).symm), (show fhc9 = v_up (v_nok bl bn p1 p2 p3 p4) fhc9 bn (v_c3 p1 p4) from (v_up_n (by unfold v_nok; omega)).symm), by rw [ht]; exact hP9, va_K.moved hW.alike hK9, hD9⟩⟩, hS.F ht⟩) hS.2.2 dX11_note_68
    · have k_88 : (p1).toInt = (3 : Int) := z_eq c_5
      refine lv_iload_n hx hb dX11_note_18 rfl (lv_at hl 3 rfl) ?_
      refine lv_if_lt (tgt := 51) hx hb dX11_note_19 (by decide) (fun c_89 => ?_) (fun c_89 => ?_)
      · have k_90 : (p3).toInt < (0 : Int) := z_lt c_89
        refine lv_iconst (v := (-1)) hx hb dX11_note_51 (by decide) ?_
        have hP9 := hP
        have hD9 := hD
        have hK9 := hK.sub (tys' := []) [] rfl
        refine W.widen (k := 0) (n := 0) (Nat.le_of_ble_eq_true rfl) (Nat.le_of_ble_eq_true rfl) ?_
        exact W.iret (v := (-1)) hx hb hr (fun t ht hW => ⟨⟨(-1), (), rfl, (show (-1) = v_noA bl bn p1 p2 p3 p4 from (v_noA_n (by unfold v_nok; omega)).symm), ⟨bn, fhs, fha, fhb9, fhc9, hB_bn, hI_ha, hR, (show bn = v_noN bl bn p1 p2 p3 p4 from (v_noN_n (by unfold v_nok; omega)).symm), (show fhs = v_up (v_nok bl bn p1 p2 p3 p4) fhs bn p1 from (v_up_n (by unfold v_nok; omega)).symm), (show fha = v_up (v_nok bl bn p1 p2 p3 p4) fha bn p2 from (v_up_n (by unfold v_nok; omega)).symm), (show fhb9 = v_up (v_nok bl bn p1 p2 p3 p4) fhb9 bn p3 from (v_up_n (by unfold v_nok; omega)).symm), (show fhc9 = v_up (v_nok bl bn p1 p2 p3 p4) fhc9 bn (v_c3 p1 p4) from (v_up_n (by unfold v_nok; omega)).symm), by rw [ht]; exact hP9, va_K.moved hW.alike hK9, hD9⟩⟩, hS.F ht⟩) hS.2.2 dX11_note_52
      · have k_91 : (p3).toInt ≥ (0 : Int) := z_nlt c_89
        refine lv_iload_n hx hb dX11_note_22 rfl (lv_at hl 3 rfl) ?_
        refine lv_iload hx hb dX11_note_23 (lv_at hl 4 rfl) ?_
        refine lv_icmp_gt (tgt := 51) hx hb dX11_note_25 (by decide) (fun c_92 => ?_) (fun c_92 => ?_)
        · have k_93 : (p4).toInt < (p3).toInt := z_lt c_92
          refine lv_iconst (v := (-1)) hx hb dX11_note_51 (by decide) ?_
          have hP9 := hP
          have hD9 := hD
          have hK9 := hK.sub (tys' := []) [] rfl
          refine W.widen (k := 0) (n := 0) (Nat.le_of_ble_eq_true rfl) (Nat.le_of_ble_eq_true rfl) ?_
          exact W.iret (v := (-1)) hx hb hr (fun t ht hW => ⟨⟨(-1), (), rfl, (show (-1) = v_noA bl bn p1 p2 p3 p4 from (v_noA_n (by unfold v_nok; omega)).symm), ⟨bn, fhs, fha, fhb9, fhc9, hB_bn, hI_ha, hR, (show bn = v_noN bl bn p1 p2 p3 p4 from (v_noN_n (by unfold v_nok; omega)).symm), (show fhs = v_up (v_nok bl bn p1 p2 p3 p4) fhs bn p1 from (v_up_n (by unfold v_nok; omega)).symm), (show fha = v_up (v_nok bl bn p1 p2 p3 p4) fha bn p2 from (v_up_n (by unfold v_nok; omega)).symm), (show fhb9 = v_up (v_nok bl bn p1 p2 p3 p4) fhb9 bn p3 from (v_up_n (by unfold v_nok; omega)).symm), (show fhc9 = v_up (v_nok bl bn p1 p2 p3 p4) fhc9 bn (v_c3 p1 p4) from (v_up_n (by unfold v_nok; omega)).symm), by rw [ht]; exact hP9, va_K.moved hW.alike hK9, hD9⟩⟩, hS.F ht⟩) hS.2.2 dX11_note_52
        · have k_94 : (p4).toInt ≥ (p3).toInt := z_nlt c_92
          refine lv_iload hx hb dX11_note_28 (lv_at hl 4 rfl) ?_
          refine lv_sipush (v := 9999) hx hb dX11_note_30 (by decide) ?_
          refine lv_icmp_gt (tgt := 51) hx hb dX11_note_33 (by decide) (fun c_95 => ?_) (fun c_95 => ?_)
          · have k_96 : (9999 : Int) < (p4).toInt := z_lt c_95
            refine lv_iconst (v := (-1)) hx hb dX11_note_51 (by decide) ?_
            have hP9 := hP
            have hD9 := hD
            have hK9 := hK.sub (tys' := []) [] rfl
            refine W.widen (k := 0) (n := 0) (Nat.le_of_ble_eq_true rfl) (Nat.le_of_ble_eq_true rfl) ?_
            exact W.iret (v := (-1)) hx hb hr (fun t ht hW => ⟨⟨(-1), (), rfl, (show (-1) = v_noA bl bn p1 p2 p3 p4 from (v_noA_n (by unfold v_nok; omega)).symm), ⟨bn, fhs, fha, fhb9, fhc9, hB_bn, hI_ha, hR, (show bn = v_noN bl bn p1 p2 p3 p4 from (v_noN_n (by unfold v_nok; omega)).symm), (show fhs = v_up (v_nok bl bn p1 p2 p3 p4) fhs bn p1 from (v_up_n (by unfold v_nok; omega)).symm), (show fha = v_up (v_nok bl bn p1 p2 p3 p4) fha bn p2 from (v_up_n (by unfold v_nok; omega)).symm), (show fhb9 = v_up (v_nok bl bn p1 p2 p3 p4) fhb9 bn p3 from (v_up_n (by unfold v_nok; omega)).symm), (show fhc9 = v_up (v_nok bl bn p1 p2 p3 p4) fhc9 bn (v_c3 p1 p4) from (v_up_n (by unfold v_nok; omega)).symm), by rw [ht]; exact hP9, va_K.moved hW.alike hK9, hD9⟩⟩, hS.F ht⟩) hS.2.2 dX11_note_52
          · have k_97 : (9999 : Int) ≥ (p4).toInt := z_nlt c_95
            refine lv_aload_n hx hb dX11_note_36 rfl (lv_at hl 0 rfl) ?_
            refine va_get (D := (dC, dI)) (ci := 11) (v := .ref h1) (C := RX11) (T := TX11) (N := 10) hx hb hts hiX11 hown hK hP 0 rfl rfl 1 (by decide) w__fieldLink_RX11_19_ShellHeap_book_LShellHeap_Book_ (fun _ h9 => h9) rfl dX11_note_37 ?_
            refine lv_iload_n hx hb dX11_note_40 rfl (lv_at hl 1 rfl) ?_
            refine lv_iload_n hx hb dX11_note_41 rfl (lv_at hl 2 rfl) ?_
            refine lv_iload_n hx hb dX11_note_42 rfl (lv_at hl 3 rfl) ?_
            refine lv_iload hx hb dX11_note_43 (lv_at hl 4 rfl) ?_
            obtain ⟨hPc, hDc, hFc⟩ := z_sub3 (ws' := [(h1, .inr (0, [.ref hs, .ref ha, .ref hb9, .ref hc9, .int bn, .int bl])), (hs, .inl (chs, 80, .inl fhs)), (ha, .inl (cha, 80, .inl fha)), (hb9, .inl (chb9, 80, .inl fhb9)), (hc9, .inl (chc9, 80, .inl fhc9))]) hP hD hS hA [1, 2, 3, 4, 5] (by decide) rfl
            have hKc := hK
            refine va_calli (va_runV (As := [.int p1, .int p2, .int p3, .int p4]) (rest := []) ⟨hx, hb, hml, hown, hts⟩ (s_X0_writeK l dC dI H_1.size h1 p1 p2 p3 p4 hs ha hb9 hc9 bn (.int bl) chs fhs cha fha chb9 fhb9 chc9 fhc9 hB_bn (by first | omega | decide) hI_ha hR (show ((0 : Int) ≤ (p2).toInt ∧ (p2).toInt ≤ (79 : Int)) ∧ ((p1).toInt ≠ (5 : Int) → (p2).toInt ≤ (11 : Int)) ∧ ((p1).toInt ≤ (2 : Int) → (0 : Int) ≤ (p3).toInt ∧ (p3).toInt ≤ (11 : Int)) by omega)) (cwV 4 hts gw_s_X11_noteK_s_X0_writeK_127 rfl rfl rfl (by decide +kernel) ⟨Nat.le_of_ble_eq_true rfl, Nat.le_of_ble_eq_true rfl⟩) ⟨z_blind, va_recv hKc hPc (ci := 0) (q0 := 0) rfl rfl, z_pre hPc hKc hDc⟩ rfl rfl hl.1 rfl (lv_room (Nat.le_of_ble_eq_true rfl)) dX11_note_45 ⟨Nat.le_of_ble_eq_true rfl, Nat.le_of_ble_eq_true rfl⟩) hS (fun q _ h => hFc q h) hFc (fun r_99 u t H_98 locs ht hvm hw_100 hB hz1 hk1 hS => ?_)
            obtain ⟨n_h0_notes_101, g_hs_102, g_ha_103, g_hb9_104, g_hc9_105, hp_106, hp_107, hp_108, hp_109, hp_110, hp_111, hp_112, hp_113, hP1, hK1, hD1⟩ := hB
            rw [ht] at hP1
            have hK1 := va_K.moved hvm.symm hK1
            obtain ⟨hP, hD⟩ := z_ap_1 (va_join (wr := [(h0, .inr (11, [h0_0, .ref h1, h0_2, h0_3, h0_4, h0_5, h0_6, h0_7, h0_8, h0_9]))]) hP hD [1, 2, 3, 4, 5] [0] rfl rfl (by decide) (by decide) hk1 hFc hP1 hD1)
            have hR := hp_108
            have hp_109 : n_h0_notes_101 = v_wrN bn := hp_109
            have hp_110 : g_hs_102 = v_up (bn.toInt < 80) fhs bn p1 := hp_110
            have hp_111 : g_ha_103 = v_up (bn.toInt < 80) fha bn p2 := hp_111
            have hp_112 : g_hb9_104 = v_up (bn.toInt < 80) fhb9 bn p3 := hp_112
            have hp_113 : g_hc9_105 = v_up (bn.toInt < 80) fhc9 bn p4 := hp_113
            clear hPc hDc hKc
            refine lv_goto (tgt := 52) hx hb dX11_note_48 (by decide) ?_
            have hP9 := hP
            have hD9 := hD
            have hK9 := hK.sub (tys' := []) [] rfl
            refine W.widen (k := 0) (n := 0) (Nat.le_of_ble_eq_true rfl) (Nat.le_of_ble_eq_true rfl) ?_
            exact W.iret (v := r_99) hx hb hr (fun t ht hW => ⟨⟨r_99, (), rfl, (show r_99 = v_noA bl bn p1 p2 p3 p4 from v_noA_w hw_100 (by unfold v_nok; omega)), ⟨n_h0_notes_101, g_hs_102, g_ha_103, g_hb9_104, g_hc9_105, hp_106, hp_107, hR, (show n_h0_notes_101 = v_noN bl bn p1 p2 p3 p4 from v_noN_w hp_109 (by unfold v_nok; omega)), (show g_hs_102 = v_up (v_nok bl bn p1 p2 p3 p4) fhs bn p1 from hp_110.trans (v_up_c (by unfold v_nok; omega) rfl)), (show g_ha_103 = v_up (v_nok bl bn p1 p2 p3 p4) fha bn p2 from hp_111.trans (v_up_c (by unfold v_nok; omega) rfl)), (show g_hb9_104 = v_up (v_nok bl bn p1 p2 p3 p4) fhb9 bn p3 from hp_112.trans (v_up_c (by unfold v_nok; omega) rfl)), (show g_hc9_105 = v_up (v_nok bl bn p1 p2 p3 p4) fhc9 bn (v_c3 p1 p4) from hp_113.trans (v_up_c (by unfold v_nok; omega) (v_c3_y (by omega)).symm)), by rw [ht]; exact hP9, va_K.moved hW.alike hK9, hD9⟩⟩, hS.F ht⟩) hS.2.2 dX11_note_52
  · have hw_3 : ¬ (0 ≤ p2.toInt ∧ p2.toInt < bl.toInt) := hw_3
    refine lv_if_ne (tgt := 13) hx hb dX11_note_8 (by decide) (fun c_114 => absurd c_114 (by decide)) (fun _ => ?_)
    refine lv_iconst (v := (-1)) hx hb dX11_note_11 (by decide) ?_
    have hP9 := hP
    have hD9 := hD
    have hK9 := hK.sub (tys' := []) [] rfl
    refine W.widen (k := 0) (n := 0) (Nat.le_of_ble_eq_true rfl) (Nat.le_of_ble_eq_true rfl) ?_
    exact W.iret (v := (-1)) hx hb hr (fun t ht hW => ⟨⟨(-1), (), rfl, (show (-1) = v_noA bl bn p1 p2 p3 p4 from (v_noA_n (by unfold v_nok; omega)).symm), ⟨bn, fhs, fha, fhb9, fhc9, hB_bn, hI_ha, hR, (show bn = v_noN bl bn p1 p2 p3 p4 from (v_noN_n (by unfold v_nok; omega)).symm), (show fhs = v_up (v_nok bl bn p1 p2 p3 p4) fhs bn p1 from (v_up_n (by unfold v_nok; omega)).symm), (show fha = v_up (v_nok bl bn p1 p2 p3 p4) fha bn p2 from (v_up_n (by unfold v_nok; omega)).symm), (show fhb9 = v_up (v_nok bl bn p1 p2 p3 p4) fhb9 bn p3 from (v_up_n (by unfold v_nok; omega)).symm), (show fhc9 = v_up (v_nok bl bn p1 p2 p3 p4) fhc9 bn (v_c3 p1 p4) from (v_up_n (by unfold v_nok; omega)).symm), by rw [ht]; exact hP9, va_K.moved hW.alike hK9, hD9⟩⟩, hS.F ht⟩) hS.2.2 dX11_note_12
def u_s_X12_noteK : List Cond := .code yX12_note cX12_note 5 (some .int) :: ([.fieldLink RX12 145 "ShellHeapModel" "thrown" "I", .fieldLink RX12 154 "ShellHeapModel" "notes" "I", .methodLink RX12 157 yX12_isLayer, .instanceMethod yX12_isLayer, .selects RX12 yX12_isLayer yX12_isLayer, .initialized RX12, .fieldLink RX12 13 "ShellHeapModel" "sort" "[I", .fieldLink RX12 16 "ShellHeapModel" "noteA" "[I", .fieldLink RX12 19 "ShellHeapModel" "noteB" "[I", .fieldLink RX12 22 "ShellHeapModel" "noteC" "[I"] ++ (wsX120 ++ (u_s_X12_isLayerA ++ [])))
set_option maxRecDepth 20000 in
theorem gw_s_X12_noteK_s_X12_isLayerA_157 : GoodIn u_s_X12_noteK (wsV RX12 157 RX12 yX12_isLayer u_s_X12_isLayerA) := z_gV (z_gr _ [3, 4, 5, 6] rfl (by decide +kernel)) (fun w h => ⟨z_mc (z_mr (z_mr (z_ml h))), gd_s_X12_isLayerA w h⟩)
set_option maxHeartbeats 4000000 in
set_option maxRecDepth 100000 in
theorem s_X12_noteK (l : Launch) (dC : Nat → ClassId) (dI : Nat → Nat → Nat) (sz : Nat) (h0 : Nat) (p1 : Int32) (p2 : Int32) (p3 : Int32) (p4 : Int32) (h0_0 : Value) (h0_1 : Value) (mx : Int32) (ml : Int32) (mn : Int32) (hs : Nat) (ha : Nat) (hb9 : Nat) (hc9 : Nat) (h0_9 : Value) (h0_10 : Value) (h0_11 : Value) (h0_12 : Value) (h0_13 : Value) (h0_14 : Value) (h0_15 : Value) (h0_16 : Value) (h0_17 : Value) (h0_18 : Value) (h0_19 : Value) (h0_20 : Value) (h0_21 : Value) (h0_22 : Value) (h0_23 : Value) (h0_24 : Value) (h0_25 : Value) (h0_26 : Value) (h0_27 : Value) (h0_28 : Value) (h0_29 : Value) (h0_30 : Value) (h0_31 : Value) (h0_32 : Value) (h0_33 : Value) (h0_34 : Value) (h0_35 : Value) (h0_36 : Value) (h0_37 : Value) (h0_38 : Value) (h0_39 : Value) (h0_40 : Value) (h0_41 : Value) (h0_42 : Value) (h0_43 : Value) (h0_44 : Value) (h0_45 : Value) (h0_46 : Value) (h0_47 : Value) (h0_48 : Value) (h0_49 : Value) (h0_50 : Value) (h0_51 : Value) (h0_52 : Value) (h0_53 : Value) (h0_54 : Value) (h0_55 : Value) (h0_56 : Value) (h0_57 : Value) (h0_58 : Value) (h0_59 : Value) (h0_60 : Value) (h0_61 : Value) (h0_62 : Value) (h0_63 : Value) (h0_64 : Value) (h0_65 : Value) (h0_66 : Value) (h0_67 : Value) (h0_68 : Value) (h0_69 : Value) (chs : ClassId) (fhs : Nat → Int32) (cha : ClassId) (fha : Nat → Int32) (chb9 : ClassId) (fhb9 : Nat → Int32) (chc9 : ClassId) (fhc9 : Nat → Int32) (gS : Nat → Int32) (gA : Nat → Int32) (gB : Nat → Int32) (gC : Nat → Int32) (hB_mn : ((0 : Int) ≤ (mn).toInt ∧ (mn).toInt ≤ (80 : Int))) (hB_ml : ((0 : Int) ≤ (ml).toInt ∧ (ml).toInt ≤ (12 : Int))) (hI_hs : ∀ j : Nat, ((0 : Int) ≤ (fhs j).toInt ∧ (fhs j).toInt ≤ (9 : Int))) (hI_ha : ∀ j : Nat, ((0 : Int) ≤ (fha j).toInt ∧ (fha j).toInt ≤ (79 : Int))) (hR : ∀ j : Nat, z_relm (fhs j) (fha j) (fhb9 j)) (hNR : k_nn fhs fha fhb9 fhc9 mn.toInt gS gA gB gC) : Met l yX12_note u_s_X12_noteK ({ frames := 1, cells := 0, slots := 0, locals := 21 }) (va_Pc [.ref h0, .int p1, .int p2, .int p3, .int p4] (z_C (dC, dI) vwCl [(h0, .inr (12, [h0_0, h0_1, .int mx, .int ml, .int mn, .ref hs, .ref ha, .ref hb9, .ref hc9, h0_9, h0_10, h0_11, h0_12, h0_13, h0_14, h0_15, h0_16, h0_17, h0_18, h0_19, h0_20, h0_21, h0_22, h0_23, h0_24, h0_25, h0_26, h0_27, h0_28, h0_29, h0_30, h0_31, h0_32, h0_33, h0_34, h0_35, h0_36, h0_37, h0_38, h0_39, h0_40, h0_41, h0_42, h0_43, h0_44, h0_45, h0_46, h0_47, h0_48, h0_49, h0_50, h0_51, h0_52, h0_53, h0_54, h0_55, h0_56, h0_57, h0_58, h0_59, h0_60, h0_61, h0_62, h0_63, h0_64, h0_65, h0_66, h0_67, h0_68, h0_69])), (hs, .inl (chs, 80, .inl fhs)), (ha, .inl (cha, 80, .inl fha)), (hb9, .inl (chb9, 80, .inl fhb9)), (hc9, .inl (chc9, 80, .inl fhc9))] [(chs, .int), (cha, .int), (chb9, .int), (chc9, .int)] sz)) (va_Qi (fun (r : Int32) (_ : Unit) => r = v_noA ml mn p1 p2 p3 p4) (fun (_ : Unit) (t : State) => ∃ (n_h0_thrown : Int32), ∃ (n_h0_notes : Int32), ∃ (g_hs : Nat → Int32), ∃ (g_ha : Nat → Int32), ∃ (g_hb9 : Nat → Int32), ∃ (g_hc9 : Nat → Int32), ((0 : Int) ≤ (n_h0_notes).toInt ∧ (n_h0_notes).toInt ≤ (80 : Int)) ∧ (∀ j : Nat, ((0 : Int) ≤ (g_hs j).toInt ∧ (g_hs j).toInt ≤ (9 : Int))) ∧ (∀ j : Nat, ((0 : Int) ≤ (g_ha j).toInt ∧ (g_ha j).toInt ≤ (79 : Int))) ∧ (∀ j : Nat, z_relm (g_hs j) (g_ha j) (g_hb9 j)) ∧ (n_h0_notes = v_noN ml mn p1 p2 p3 p4) ∧ (k_nn g_hs g_ha g_hb9 g_hc9 n_h0_notes.toInt (v_up (v_nok ml mn p1 p2 p3 p4) gS mn p1) (v_up (v_nok ml mn p1 p2 p3 p4) gA mn p2) (v_up (v_nok ml mn p1 p2 p3 p4) gB mn p3) (v_up (v_nok ml mn p1 p2 p3 p4) gC mn (v_c3 p1 p4))) ∧ va_P (dC, dI) vwCl [(h0, .inr (12, [h0_0, h0_1, .int n_h0_thrown, .int ml, .int n_h0_notes, .ref hs, .ref ha, .ref hb9, .ref hc9, h0_9, h0_10, h0_11, h0_12, h0_13, h0_14, h0_15, h0_16, h0_17, h0_18, h0_19, h0_20, h0_21, h0_22, h0_23, h0_24, h0_25, h0_26, h0_27, h0_28, h0_29, h0_30, h0_31, h0_32, h0_33, h0_34, h0_35, h0_36, h0_37, h0_38, h0_39, h0_40, h0_41, h0_42, h0_43, h0_44, h0_45, h0_46, h0_47, h0_48, h0_49, h0_50, h0_51, h0_52, h0_53, h0_54, h0_55, h0_56, h0_57, h0_58, h0_59, h0_60, h0_61, h0_62, h0_63, h0_64, h0_65, h0_66, h0_67, h0_68, h0_69])), (hs, .inl (chs, 80, .inl g_hs)), (ha, .inl (cha, 80, .inl g_ha)), (hb9, .inl (chb9, 80, .inl g_hb9)), (hc9, .inl (chc9, 80, .inl g_hc9))] t.heap ∧ va_K (dC, dI) vwCl [] t ∧ va_D (va_A [(h0, .inr (12, [h0_0, h0_1, .int mx, .int ml, .int mn, .ref hs, .ref ha, .ref hb9, .ref hc9, h0_9, h0_10, h0_11, h0_12, h0_13, h0_14, h0_15, h0_16, h0_17, h0_18, h0_19, h0_20, h0_21, h0_22, h0_23, h0_24, h0_25, h0_26, h0_27, h0_28, h0_29, h0_30, h0_31, h0_32, h0_33, h0_34, h0_35, h0_36, h0_37, h0_38, h0_39, h0_40, h0_41, h0_42, h0_43, h0_44, h0_45, h0_46, h0_47, h0_48, h0_49, h0_50, h0_51, h0_52, h0_53, h0_54, h0_55, h0_56, h0_57, h0_58, h0_59, h0_60, h0_61, h0_62, h0_63, h0_64, h0_65, h0_66, h0_67, h0_68, h0_69])), (hs, .inl (chs, 80, .inl fhs)), (ha, .inl (cha, 80, .inl fha)), (hb9, .inl (chb9, 80, .inl fhb9)), (hc9, .inl (chc9, 80, .inl fhc9))] sz) [(h0, .inr (12, [h0_0, h0_1, .int n_h0_thrown, .int ml, .int n_h0_notes, .ref hs, .ref ha, .ref hb9, .ref hc9, h0_9, h0_10, h0_11, h0_12, h0_13, h0_14, h0_15, h0_16, h0_17, h0_18, h0_19, h0_20, h0_21, h0_22, h0_23, h0_24, h0_25, h0_26, h0_27, h0_28, h0_29, h0_30, h0_31, h0_32, h0_33, h0_34, h0_35, h0_36, h0_37, h0_38, h0_39, h0_40, h0_41, h0_42, h0_43, h0_44, h0_45, h0_46, h0_47, h0_48, h0_49, h0_50, h0_51, h0_52, h0_53, h0_54, h0_55, h0_56, h0_57, h0_58, h0_59, h0_60, h0_61, h0_62, h0_63, h0_64, h0_65, h0_66, h0_67, h0_68, h0_69])), (hs, .inl (chs, 80, .inl g_hs)), (ha, .inl (cha, 80, .inl g_ha)), (hb9, .inl (chb9, 80, .inl g_hb9)), (hc9, .inl (chc9, 80, .inl g_hc9))]) (va_A [(h0, .inr (12, [h0_0, h0_1, .int mx, .int ml, .int mn, .ref hs, .ref ha, .ref hb9, .ref hc9, h0_9, h0_10, h0_11, h0_12, h0_13, h0_14, h0_15, h0_16, h0_17, h0_18, h0_19, h0_20, h0_21, h0_22, h0_23, h0_24, h0_25, h0_26, h0_27, h0_28, h0_29, h0_30, h0_31, h0_32, h0_33, h0_34, h0_35, h0_36, h0_37, h0_38, h0_39, h0_40, h0_41, h0_42, h0_43, h0_44, h0_45, h0_46, h0_47, h0_48, h0_49, h0_50, h0_51, h0_52, h0_53, h0_54, h0_55, h0_56, h0_57, h0_58, h0_59, h0_60, h0_61, h0_62, h0_63, h0_64, h0_65, h0_66, h0_67, h0_68, h0_69])), (hs, .inl (chs, 80, .inl fhs)), (ha, .inl (cha, 80, .inl fha)), (hb9, .inl (chb9, 80, .inl fhb9)), (hc9, .inl (chc9, 80, .inl fhc9))] sz)) 0 0 (va_A [(h0, .inr (12, [h0_0, h0_1, .int mx, .int ml, .int mn, .ref hs, .ref ha, .ref hb9, .ref hc9, h0_9, h0_10, h0_11, h0_12, h0_13, h0_14, h0_15, h0_16, h0_17, h0_18, h0_19, h0_20, h0_21, h0_22, h0_23, h0_24, h0_25, h0_26, h0_27, h0_28, h0_29, h0_30, h0_31, h0_32, h0_33, h0_34, h0_35, h0_36, h0_37, h0_38, h0_39, h0_40, h0_41, h0_42, h0_43, h0_44, h0_45, h0_46, h0_47, h0_48, h0_49, h0_50, h0_51, h0_52, h0_53, h0_54, h0_55, h0_56, h0_57, h0_58, h0_59, h0_60, h0_61, h0_62, h0_63, h0_64, h0_65, h0_66, h0_67, h0_68, h0_69])), (hs, .inl (chs, 80, .inl fhs)), (ha, .inl (cha, 80, .inl fha)), (hb9, .inl (chb9, 80, .inl fhb9)), (hc9, .inl (chc9, 80, .inl fhc9))] sz) := by
  refine Met.ofW (cc := cX12_note) (maxL := 5) (ret := (some .int)) (by decide) rfl ?_
  intro p e s m args below meth c s₁ B hml hv
  obtain ⟨rfl, hsz, hP, hK, hD0⟩ := hv
  have hx := B.exec
  have hb := B.bytes
  have hr := B.returns
  have hts := atoms_spec (ws := u_s_X12_noteK) B.pre
  have hown : s.vm.findClass RX12 = some m.cls := findClass_of_methodNamed B.named
  have hlocks := B.notSynchronized
  subst hsz
  have hD := hD0.self (sz := s.heap.size)
  generalize hAe : va_A [(h0, .inr (12, [h0_0, h0_1, .int mx, .int ml, .int mn, .ref hs, .ref ha, .ref hb9, .ref hc9, h0_9, h0_10, h0_11, h0_12, h0_13, h0_14, h0_15, h0_16, h0_17, h0_18, h0_19, h0_20, h0_21, h0_22, h0_23, h0_24, h0_25, h0_26, h0_27, h0_28, h0_29, h0_30, h0_31, h0_32, h0_33, h0_34, h0_35, h0_36, h0_37, h0_38, h0_39, h0_40, h0_41, h0_42, h0_43, h0_44, h0_45, h0_46, h0_47, h0_48, h0_49, h0_50, h0_51, h0_52, h0_53, h0_54, h0_55, h0_56, h0_57, h0_58, h0_59, h0_60, h0_61, h0_62, h0_63, h0_64, h0_65, h0_66, h0_67, h0_68, h0_69])), (hs, .inl (chs, 80, .inl fhs)), (ha, .inl (cha, 80, .inl fha)), (hb9, .inl (chb9, 80, .inl fhb9)), (hc9, .inl (chc9, 80, .inl fhc9))] s.heap.size = A at hD ⊢
  have hA : ∀ q : Nat, s.heap.size ≤ q → A q := fun q h => by rw [← hAe]; exact Or.inr h
  have hS : va_S A s.heap s.heap [] := va_S.rf
  have hP : va_P (dC, dI) vwCl [(h0, .inr (12, [h0_0, h0_1, .int mx, .int ml, .int mn, .ref hs, .ref ha, .ref hb9, .ref hc9, h0_9, h0_10, h0_11, h0_12, h0_13, h0_14, h0_15, h0_16, h0_17, h0_18, h0_19, h0_20, h0_21, h0_22, h0_23, h0_24, h0_25, h0_26, h0_27, h0_28, h0_29, h0_30, h0_31, h0_32, h0_33, h0_34, h0_35, h0_36, h0_37, h0_38, h0_39, h0_40, h0_41, h0_42, h0_43, h0_44, h0_45, h0_46, h0_47, h0_48, h0_49, h0_50, h0_51, h0_52, h0_53, h0_54, h0_55, h0_56, h0_57, h0_58, h0_59, h0_60, h0_61, h0_62, h0_63, h0_64, h0_65, h0_66, h0_67, h0_68, h0_69])), (hs, .inl (chs, 80, .inl fhs)), (ha, .inl (cha, 80, .inl fha)), (hb9, .inl (chb9, 80, .inl fhb9)), (hc9, .inl (chc9, 80, .inl fhc9))] s.heap := hP
  have w__fieldLink_RX12_145_ShellHeapModel_thrown_I_ := hts (.fieldLink RX12 145 "ShellHeapModel" "thrown" "I") (z_mc (z_ml z_m0))
  have hiX12 := show ∀ w ∈ u_ws RX12 TX12 70, w ∈ u_s_X12_noteK from fun w h => z_mc (z_mr (z_ml h))
  have w__fieldLink_RX12_154_ShellHeapModel_notes_I_ := hts (.fieldLink RX12 154 "ShellHeapModel" "notes" "I") (z_mc (z_ml z_m1))
  have w__fieldLink_RX12_13_ShellHeapModel_sort_I_ := hts (.fieldLink RX12 13 "ShellHeapModel" "sort" "[I") (z_mc (z_ml z_m6))
  have w__fieldLink_RX12_16_ShellHeapModel_noteA_I_ := hts (.fieldLink RX12 16 "ShellHeapModel" "noteA" "[I") (z_mc (z_ml z_m7))
  have w__fieldLink_RX12_19_ShellHeapModel_noteB_I_ := hts (.fieldLink RX12 19 "ShellHeapModel" "noteB" "[I") (z_mc (z_ml z_m8))
  have w__fieldLink_RX12_22_ShellHeapModel_noteC_I_ := hts (.fieldLink RX12 22 "ShellHeapModel" "noteC" "[I") (z_mc (z_ml z_m9))
  have krr_p1 := z_rng p1
  have krr_p2 := z_rng p2
  have krr_p3 := z_rng p3
  have krr_p4 := z_rng p4
  have hl := lv_entry ([.ref h0, .int p1, .int p2, .int p3, .int p4]) (n := 5) (Nat.le_of_ble_eq_true rfl)
  rw [lg_entry_eq]
  generalize (lg_sl ([.ref h0, .int p1, .int p2, .int p3, .int p4]) ++ List.replicate (5 - (lg_sl ([.ref h0, .int p1, .int p2, .int p3, .int p4])).length) Slot.unset).toArray = ls at hl ⊢
  have hl : lv_has ls 5 [(0, .ref h0), (1, .int p1), (2, .int p2), (3, .int p3), (4, .int p4)] := hl
  refine lv_aload_n hx hb dX12_note_0 rfl (lv_at hl 0 rfl) ?_
  refine lv_iconst (v := 0) hx hb dX12_note_1 (by decide) ?_
  refine va_put (D := (dC, dI)) (ci := 12) (v := .int 0) (ty := .int) (C := RX12) (T := TX12) (N := 70) hx hb hts hiX12 tyX12 tyX12_ok nmX12 hown hK hP hD hS 0 rfl rfl 2 (by decide) w__fieldLink_RX12_145_ShellHeapModel_thrown_I_ (fun _ h9 => h9) rfl (by decide +kernel) rfl rfl (Nat.le_of_ble_eq_true rfl) dX12_note_2 (fun H_1 locs hP hD hS => ?_)
  obtain ⟨hP, hD⟩ := z_s_0_2 hP hD
  refine lv_iload_n hx hb dX12_note_5 rfl (lv_at hl 1 rfl) ?_
  refine lv_if_lt (tgt := 31) hx hb dX12_note_6 (by decide) (fun c_2 => ?_) (fun c_2 => ?_)
  · have k_3 : (p1).toInt < (0 : Int) := z_lt c_2
    refine lv_iconst (v := (-1)) hx hb dX12_note_31 (by decide) ?_
    have hP9 := hP
    have hD9 := hD
    have hK9 := hK.sub (tys' := []) [] rfl
    refine W.widen (k := 0) (n := 0) (Nat.le_of_ble_eq_true rfl) (Nat.le_of_ble_eq_true rfl) ?_
    exact W.iret (v := (-1)) hx hb hr (fun t ht hW => ⟨⟨(-1), (), rfl, (show (-1) = v_noA ml mn p1 p2 p3 p4 from (v_noA_n (by unfold v_nok; omega)).symm), ⟨0, mn, fhs, fha, fhb9, fhc9, hB_mn, hI_hs, hI_ha, hR, (show mn = v_noN ml mn p1 p2 p3 p4 from (v_noN_n (by unfold v_nok; omega)).symm), (show k_nn fhs fha fhb9 fhc9 mn.toInt (v_up (v_nok ml mn p1 p2 p3 p4) gS mn p1) (v_up (v_nok ml mn p1 p2 p3 p4) gA mn p2) (v_up (v_nok ml mn p1 p2 p3 p4) gB mn p3) (v_up (v_nok ml mn p1 p2 p3 p4) gC mn (v_c3 p1 p4)) from k_nn_n hNR (by unfold v_nok; omega) rfl), by rw [ht]; exact hP9, va_K.moved hW.alike hK9, hD9⟩⟩, hS.F ht⟩) hS.2.2 dX12_note_32
  · have k_4 : (p1).toInt ≥ (0 : Int) := z_nlt c_2
    refine lv_iload_n hx hb dX12_note_9 rfl (lv_at hl 1 rfl) ?_
    refine lv_iconst (v := 3) hx hb dX12_note_10 (by decide) ?_
    refine lv_icmp_gt (tgt := 31) hx hb dX12_note_11 (by decide) (fun c_5 => ?_) (fun c_5 => ?_)
    · have k_6 : (3 : Int) < (p1).toInt := z_lt c_5
      refine lv_iconst (v := (-1)) hx hb dX12_note_31 (by decide) ?_
      have hP9 := hP
      have hD9 := hD
      have hK9 := hK.sub (tys' := []) [] rfl
      refine W.widen (k := 0) (n := 0) (Nat.le_of_ble_eq_true rfl) (Nat.le_of_ble_eq_true rfl) ?_
      exact W.iret (v := (-1)) hx hb hr (fun t ht hW => ⟨⟨(-1), (), rfl, (show (-1) = v_noA ml mn p1 p2 p3 p4 from (v_noA_n (by unfold v_nok; omega)).symm), ⟨0, mn, fhs, fha, fhb9, fhc9, hB_mn, hI_hs, hI_ha, hR, (show mn = v_noN ml mn p1 p2 p3 p4 from (v_noN_n (by unfold v_nok; omega)).symm), (show k_nn fhs fha fhb9 fhc9 mn.toInt (v_up (v_nok ml mn p1 p2 p3 p4) gS mn p1) (v_up (v_nok ml mn p1 p2 p3 p4) gA mn p2) (v_up (v_nok ml mn p1 p2 p3 p4) gB mn p3) (v_up (v_nok ml mn p1 p2 p3 p4) gC mn (v_c3 p1 p4)) from k_nn_n hNR (by unfold v_nok; omega) rfl), by rw [ht]; exact hP9, va_K.moved hW.alike hK9, hD9⟩⟩, hS.F ht⟩) hS.2.2 dX12_note_32
    · have k_7 : (3 : Int) ≥ (p1).toInt := z_nlt c_5
      refine lv_aload_n hx hb dX12_note_14 rfl (lv_at hl 0 rfl) ?_
      refine va_get (D := (dC, dI)) (ci := 12) (v := .int mn) (C := RX12) (T := TX12) (N := 70) hx hb hts hiX12 hown hK hP 0 rfl rfl 4 (by decide) w__fieldLink_RX12_154_ShellHeapModel_notes_I_ (fun _ h9 => h9) rfl dX12_note_15 ?_
      refine lv_bipush (v := 80) hx hb dX12_note_18 (by decide) ?_
      refine lv_icmp_eq (tgt := 31) hx hb dX12_note_20 (by decide) (fun c_8 => ?_) (fun c_8 => ?_)
      · have k_9 : (mn).toInt = (80 : Int) := z_eq c_8
        refine lv_iconst (v := (-1)) hx hb dX12_note_31 (by decide) ?_
        have hP9 := hP
        have hD9 := hD
        have hK9 := hK.sub (tys' := []) [] rfl
        refine W.widen (k := 0) (n := 0) (Nat.le_of_ble_eq_true rfl) (Nat.le_of_ble_eq_true rfl) ?_
        exact W.iret (v := (-1)) hx hb hr (fun t ht hW => ⟨⟨(-1), (), rfl, (show (-1) = v_noA ml mn p1 p2 p3 p4 from (v_noA_n (by unfold v_nok; omega)).symm), ⟨0, mn, fhs, fha, fhb9, fhc9, hB_mn, hI_hs, hI_ha, hR, (show mn = v_noN ml mn p1 p2 p3 p4 from (v_noN_n (by unfold v_nok; omega)).symm), (show k_nn fhs fha fhb9 fhc9 mn.toInt (v_up (v_nok ml mn p1 p2 p3 p4) gS mn p1) (v_up (v_nok ml mn p1 p2 p3 p4) gA mn p2) (v_up (v_nok ml mn p1 p2 p3 p4) gB mn p3) (v_up (v_nok ml mn p1 p2 p3 p4) gC mn (v_c3 p1 p4)) from k_nn_n hNR (by unfold v_nok; omega) rfl), by rw [ht]; exact hP9, va_K.moved hW.alike hK9, hD9⟩⟩, hS.F ht⟩) hS.2.2 dX12_note_32
      · have k_10 : (mn).toInt ≠ (80 : Int) := z_ne c_8
        refine lv_aload_n hx hb dX12_note_23 rfl (lv_at hl 0 rfl) ?_
        refine lv_iload_n hx hb dX12_note_24 rfl (lv_at hl 2 rfl) ?_
        obtain ⟨hPc, hDc⟩ := z_sub2 (ws' := [(h0, .inr (12, [h0_0, h0_1, .int 0, .int ml, .int mn, .ref hs, .ref ha, .ref hb9, .ref hc9, h0_9, h0_10, h0_11, h0_12, h0_13, h0_14, h0_15, h0_16, h0_17, h0_18, h0_19, h0_20, h0_21, h0_22, h0_23, h0_24, h0_25, h0_26, h0_27, h0_28, h0_29, h0_30, h0_31, h0_32, h0_33, h0_34, h0_35, h0_36, h0_37, h0_38, h0_39, h0_40, h0_41, h0_42, h0_43, h0_44, h0_45, h0_46, h0_47, h0_48, h0_49, h0_50, h0_51, h0_52, h0_53, h0_54, h0_55, h0_56, h0_57, h0_58, h0_59, h0_60, h0_61, h0_62, h0_63, h0_64, h0_65, h0_66, h0_67, h0_68, h0_69]))]) hP hD [0] (by decide) rfl
        have hKc := hK.sub (tys' := []) [] rfl
        have hFc := va_free (ws := []) (wc := []) (z_D0 _) hS hA [] rfl
        refine va_calli (va_runV (As := [.int p2]) (rest := []) ⟨hx, hb, hml, hown, hts⟩ (s_X12_isLayerA l dC dI H_1.size h0 p2 h0_0 h0_1 (.int 0) ml (.int mn) (.ref hs) (.ref ha) (.ref hb9) (.ref hc9) h0_9 h0_10 h0_11 h0_12 h0_13 h0_14 h0_15 h0_16 h0_17 h0_18 h0_19 h0_20 h0_21 h0_22 h0_23 h0_24 h0_25 h0_26 h0_27 h0_28 h0_29 h0_30 h0_31 h0_32 h0_33 h0_34 h0_35 h0_36 h0_37 h0_38 h0_39 h0_40 h0_41 h0_42 h0_43 h0_44 h0_45 h0_46 h0_47 h0_48 h0_49 h0_50 h0_51 h0_52 h0_53 h0_54 h0_55 h0_56 h0_57 h0_58 h0_59 h0_60 h0_61 h0_62 h0_63 h0_64 h0_65 h0_66 h0_67 h0_68 h0_69 hB_ml) (cwV 1 hts gw_s_X12_noteK_s_X12_isLayerA_157 rfl rfl rfl (by decide +kernel) ⟨Nat.le_of_ble_eq_true rfl, Nat.le_of_ble_eq_true rfl⟩) ⟨z_blind, va_recv hKc hPc (ci := 12) (q0 := 0) rfl rfl, z_pre hPc hKc hDc⟩ rfl rfl hl.1 rfl (lv_room (Nat.le_of_ble_eq_true rfl)) dX12_note_25 ⟨Nat.le_of_ble_eq_true rfl, Nat.le_of_ble_eq_true rfl⟩) hS (fun q _ h => hFc q h) hFc (fun r_12 u t H_11 locs ht hvm hw_13 hB hz1 hk1 hS => ?_)
        replace hP := z_pure hP hk1
        clear hPc hDc hKc
        rcases hw_13 with ⟨rfl, hw_13⟩ | ⟨rfl, hw_13⟩
        · have hw_13 : (0 ≤ p2.toInt ∧ p2.toInt < ml.toInt) := hw_13
          refine lv_if_ne (tgt := 33) hx hb dX12_note_28 (by decide) (fun _ => ?_) (fun c_14 => absurd c_14 (by decide))
          refine lv_iload_n hx hb dX12_note_33 rfl (lv_at hl 1 rfl) ?_
          refine lv_iconst (v := 3) hx hb dX12_note_34 (by decide) ?_
          refine lv_icmp_ge (tgt := 54) hx hb dX12_note_35 (by decide) (fun c_15 => ?_) (fun c_15 => ?_)
          · have k_16 : (3 : Int) ≤ (p1).toInt := z_le c_15
            refine lv_iload_n hx hb dX12_note_54 rfl (lv_at hl 3 rfl) ?_
            refine lv_if_lt (tgt := 72) hx hb dX12_note_55 (by decide) (fun c_17 => ?_) (fun c_17 => ?_)
            · have k_18 : (p3).toInt < (0 : Int) := z_lt c_17
              refine lv_iconst (v := (-1)) hx hb dX12_note_72 (by decide) ?_
              have hP9 := hP
              have hD9 := hD
              have hK9 := hK.sub (tys' := []) [] rfl
              refine W.widen (k := 0) (n := 0) (Nat.le_of_ble_eq_true rfl) (Nat.le_of_ble_eq_true rfl) ?_
              exact W.iret (v := (-1)) hx hb hr (fun t ht hW => ⟨⟨(-1), (), rfl, (show (-1) = v_noA ml mn p1 p2 p3 p4 from (v_noA_n (by unfold v_nok; omega)).symm), ⟨0, mn, fhs, fha, fhb9, fhc9, hB_mn, hI_hs, hI_ha, hR, (show mn = v_noN ml mn p1 p2 p3 p4 from (v_noN_n (by unfold v_nok; omega)).symm), (show k_nn fhs fha fhb9 fhc9 mn.toInt (v_up (v_nok ml mn p1 p2 p3 p4) gS mn p1) (v_up (v_nok ml mn p1 p2 p3 p4) gA mn p2) (v_up (v_nok ml mn p1 p2 p3 p4) gB mn p3) (v_up (v_nok ml mn p1 p2 p3 p4) gC mn (v_c3 p1 p4)) from k_nn_n hNR (by unfold v_nok; omega) rfl), by rw [ht]; exact hP9, va_K.moved hW.alike hK9, hD9⟩⟩, hS.F ht⟩) hS.2.2 dX12_note_73
            · have k_19 : (p3).toInt ≥ (0 : Int) := z_nlt c_17
              refine lv_iload_n hx hb dX12_note_58 rfl (lv_at hl 3 rfl) ?_
              refine lv_iload hx hb dX12_note_59 (lv_at hl 4 rfl) ?_
              refine lv_icmp_gt (tgt := 72) hx hb dX12_note_61 (by decide) (fun c_20 => ?_) (fun c_20 => ?_)
              · have k_21 : (p4).toInt < (p3).toInt := z_lt c_20
                refine lv_iconst (v := (-1)) hx hb dX12_note_72 (by decide) ?_
                have hP9 := hP
                have hD9 := hD
                have hK9 := hK.sub (tys' := []) [] rfl
                refine W.widen (k := 0) (n := 0) (Nat.le_of_ble_eq_true rfl) (Nat.le_of_ble_eq_true rfl) ?_
                exact W.iret (v := (-1)) hx hb hr (fun t ht hW => ⟨⟨(-1), (), rfl, (show (-1) = v_noA ml mn p1 p2 p3 p4 from (v_noA_n (by unfold v_nok; omega)).symm), ⟨0, mn, fhs, fha, fhb9, fhc9, hB_mn, hI_hs, hI_ha, hR, (show mn = v_noN ml mn p1 p2 p3 p4 from (v_noN_n (by unfold v_nok; omega)).symm), (show k_nn fhs fha fhb9 fhc9 mn.toInt (v_up (v_nok ml mn p1 p2 p3 p4) gS mn p1) (v_up (v_nok ml mn p1 p2 p3 p4) gA mn p2) (v_up (v_nok ml mn p1 p2 p3 p4) gB mn p3) (v_up (v_nok ml mn p1 p2 p3 p4) gC mn (v_c3 p1 p4)) from k_nn_n hNR (by unfold v_nok; omega) rfl), by rw [ht]; exact hP9, va_K.moved hW.alike hK9, hD9⟩⟩, hS.F ht⟩) hS.2.2 dX12_note_73
              · have k_22 : (p4).toInt ≥ (p3).toInt := z_nlt c_20
                refine lv_iload hx hb dX12_note_64 (lv_at hl 4 rfl) ?_
                refine lv_sipush (v := 9999) hx hb dX12_note_66 (by decide) ?_
                refine lv_icmp_le (tgt := 74) hx hb dX12_note_69 (by decide) (fun c_23 => ?_) (fun c_23 => ?_)
                · have k_24 : (p4).toInt ≤ (9999 : Int) := z_le c_23
                  refine lv_aload_n hx hb dX12_note_74 rfl (lv_at hl 0 rfl) ?_
                  refine va_get (D := (dC, dI)) (ci := 12) (v := .ref hs) (C := RX12) (T := TX12) (N := 70) hx hb hts hiX12 hown hK hP 0 rfl rfl 5 (by decide) w__fieldLink_RX12_13_ShellHeapModel_sort_I_ (fun _ h9 => h9) rfl dX12_note_75 ?_
                  refine lv_aload_n hx hb dX12_note_78 rfl (lv_at hl 0 rfl) ?_
                  refine va_get (D := (dC, dI)) (ci := 12) (v := .int mn) (C := RX12) (T := TX12) (N := 70) hx hb hts hiX12 hown hK hP 0 rfl rfl 4 (by decide) w__fieldLink_RX12_154_ShellHeapModel_notes_I_ (fun _ h9 => h9) rfl dX12_note_79 ?_
                  refine lv_iload_n hx hb dX12_note_82 rfl (lv_at hl 1 rfl) ?_
                  refine va_iast hx hb hK hP hD hS 1 0 rfl rfl (z_vpin (by omega) (by omega)) dX12_note_83 (fun H_25 locs hP hD hS => ?_)
                  obtain ⟨hP, hD⟩ := z_s_1 hP hD
                  have hI_f_26 : ∀ j : Nat, ((0 : Int) ≤ ((upd fhs (mn : Int32).toNatClampNeg p1) j).toInt ∧ ((upd fhs (mn : Int32).toNatClampNeg p1) j).toInt ≤ (9 : Int)) := z_updP (P := fun v => ((0 : Int) ≤ (v).toInt ∧ (v).toInt ≤ (9 : Int))) hI_hs (show ((0 : Int) ≤ (p1).toInt ∧ (p1).toInt ≤ (9 : Int)) from by first | omega | decide)
                  refine lv_aload_n hx hb dX12_note_84 rfl (lv_at hl 0 rfl) ?_
                  refine va_get (D := (dC, dI)) (ci := 12) (v := .ref ha) (C := RX12) (T := TX12) (N := 70) hx hb hts hiX12 hown hK hP 0 rfl rfl 6 (by decide) w__fieldLink_RX12_16_ShellHeapModel_noteA_I_ (fun _ h9 => h9) rfl dX12_note_85 ?_
                  refine lv_aload_n hx hb dX12_note_88 rfl (lv_at hl 0 rfl) ?_
                  refine va_get (D := (dC, dI)) (ci := 12) (v := .int mn) (C := RX12) (T := TX12) (N := 70) hx hb hts hiX12 hown hK hP 0 rfl rfl 4 (by decide) w__fieldLink_RX12_154_ShellHeapModel_notes_I_ (fun _ h9 => h9) rfl dX12_note_89 ?_
                  refine lv_iload_n hx hb dX12_note_92 rfl (lv_at hl 2 rfl) ?_
                  refine va_iast hx hb hK hP hD hS 2 1 rfl rfl (z_vpin (by omega) (by omega)) dX12_note_93 (fun H_27 locs hP hD hS => ?_)
                  obtain ⟨hP, hD⟩ := z_s_2 hP hD
                  have hI_f_28 : ∀ j : Nat, ((0 : Int) ≤ ((upd fha (mn : Int32).toNatClampNeg p2) j).toInt ∧ ((upd fha (mn : Int32).toNatClampNeg p2) j).toInt ≤ (79 : Int)) := z_updP (P := fun v => ((0 : Int) ≤ (v).toInt ∧ (v).toInt ≤ (79 : Int))) hI_ha (show ((0 : Int) ≤ (p2).toInt ∧ (p2).toInt ≤ (79 : Int)) from by first | omega | decide)
                  refine lv_aload_n hx hb dX12_note_94 rfl (lv_at hl 0 rfl) ?_
                  refine va_get (D := (dC, dI)) (ci := 12) (v := .ref hb9) (C := RX12) (T := TX12) (N := 70) hx hb hts hiX12 hown hK hP 0 rfl rfl 7 (by decide) w__fieldLink_RX12_19_ShellHeapModel_noteB_I_ (fun _ h9 => h9) rfl dX12_note_95 ?_
                  refine lv_aload_n hx hb dX12_note_98 rfl (lv_at hl 0 rfl) ?_
                  refine va_get (D := (dC, dI)) (ci := 12) (v := .int mn) (C := RX12) (T := TX12) (N := 70) hx hb hts hiX12 hown hK hP 0 rfl rfl 4 (by decide) w__fieldLink_RX12_154_ShellHeapModel_notes_I_ (fun _ h9 => h9) rfl dX12_note_99 ?_
                  refine lv_iload_n hx hb dX12_note_102 rfl (lv_at hl 3 rfl) ?_
                  refine va_iast hx hb hK hP hD hS 3 2 rfl rfl (z_vpin (by omega) (by omega)) dX12_note_103 (fun H_29 locs hP hD hS => ?_)
                  obtain ⟨hP, hD⟩ := z_s_3 hP hD
                  refine lv_aload_n hx hb dX12_note_104 rfl (lv_at hl 0 rfl) ?_
                  refine va_get (D := (dC, dI)) (ci := 12) (v := .ref hc9) (C := RX12) (T := TX12) (N := 70) hx hb hts hiX12 hown hK hP 0 rfl rfl 8 (by decide) w__fieldLink_RX12_22_ShellHeapModel_noteC_I_ (fun _ h9 => h9) rfl dX12_note_105 ?_
                  refine lv_aload_n hx hb dX12_note_108 rfl (lv_at hl 0 rfl) ?_
                  refine va_get (D := (dC, dI)) (ci := 12) (v := .int mn) (C := RX12) (T := TX12) (N := 70) hx hb hts hiX12 hown hK hP 0 rfl rfl 4 (by decide) w__fieldLink_RX12_154_ShellHeapModel_notes_I_ (fun _ h9 => h9) rfl dX12_note_109 ?_
                  refine lv_iload hx hb dX12_note_112 (lv_at hl 4 rfl) ?_
                  refine va_iast hx hb hK hP hD hS 4 3 rfl rfl (z_vpin (by omega) (by omega)) dX12_note_114 (fun H_31 locs hP hD hS => ?_)
                  obtain ⟨hP, hD⟩ := z_s_4 hP hD
                  refine lv_aload_n hx hb dX12_note_115 rfl (lv_at hl 0 rfl) ?_
                  refine lv_dup hx hb dX12_note_116 rfl ?_
                  refine va_get (D := (dC, dI)) (ci := 12) (v := .int mn) (C := RX12) (T := TX12) (N := 70) hx hb hts hiX12 hown hK hP 0 rfl rfl 4 (by decide) w__fieldLink_RX12_154_ShellHeapModel_notes_I_ (fun _ h9 => h9) rfl dX12_note_117 ?_
                  refine lv_iconst (v := 1) hx hb dX12_note_120 (by decide) ?_
                  refine lv_iadd hx hb dX12_note_121 ?_
                  refine lv_topi (fun z_33 ez_33 => ?_)
                  have kz_33 : (z_33).toInt = (mn).toInt + (1 : Int) := by rw [ez_33]; exact z_add (a := (mn).toInt) (b := (1 : Int)) rfl rfl (z_al hB_mn.1 (by decide)) (z_ah hB_mn.2 (by decide))
                  refine va_put (D := (dC, dI)) (ci := 12) (v := .int z_33) (ty := .int) (C := RX12) (T := TX12) (N := 70) hx hb hts hiX12 tyX12 tyX12_ok nmX12 hown hK hP hD hS 0 rfl rfl 4 (by decide) w__fieldLink_RX12_154_ShellHeapModel_notes_I_ (fun _ h9 => h9) rfl (by decide +kernel) rfl rfl (Nat.le_of_ble_eq_true rfl) dX12_note_122 (fun H_34 locs hP hD hS => ?_)
                  obtain ⟨hP, hD⟩ := z_s_0_4 hP hD
                  refine lv_aload_n hx hb dX12_note_125 rfl (lv_at hl 0 rfl) ?_
                  refine va_get (D := (dC, dI)) (ci := 12) (v := .int z_33) (C := RX12) (T := TX12) (N := 70) hx hb hts hiX12 hown hK hP 0 rfl rfl 4 (by decide) w__fieldLink_RX12_154_ShellHeapModel_notes_I_ (fun _ h9 => h9) rfl dX12_note_126 ?_
                  refine lv_iconst (v := 1) hx hb dX12_note_129 (by decide) ?_
                  refine lv_isub hx hb dX12_note_130 ?_
                  refine lv_topi (fun z_35 ez_35 => ?_)
                  have kz_35 : (z_35).toInt = (z_33).toInt - (1 : Int) := by rw [ez_35]; exact z_sub (a := (z_33).toInt) (b := (1 : Int)) rfl rfl (by omega) (by omega)
                  have hP9 := hP
                  have hD9 := hD
                  have hK9 := hK.sub (tys' := []) [] rfl
                  refine W.widen (k := 0) (n := 0) (Nat.le_of_ble_eq_true rfl) (Nat.le_of_ble_eq_true rfl) ?_
                  exact W.iret (v := z_35) hx hb hr (fun t ht hW => ⟨⟨z_35, (), rfl, (show z_35 = v_noA ml mn p1 p2 p3 p4 from (z_ii (show (z_35).toInt = (mn).toInt by omega)).trans (v_noA_y (by unfold v_nok; omega)).symm), ⟨0, z_33, (upd fhs (mn : Int32).toNatClampNeg p1), (upd fha (mn : Int32).toNatClampNeg p2), (upd fhb9 (mn : Int32).toNatClampNeg p3), (upd fhc9 (mn : Int32).toNatClampNeg p4), (by first | omega | decide), hI_f_26, hI_f_28, (z_relm_upd hR (show ((0 : Int) ≤ (p2).toInt ∧ (p2).toInt ≤ (79 : Int)) ∧ ((p1).toInt ≠ (9 : Int) → (p2).toInt ≤ (11 : Int)) ∧ ((p1).toInt ≤ (2 : Int) → (0 : Int) ≤ (p3).toInt ∧ (p3).toInt ≤ (11 : Int)) by omega)), (show z_33 = v_noN ml mn p1 p2 p3 p4 from ez_33.trans (v_noN_y (by unfold v_nok; omega)).symm), (show k_nn (upd fhs (mn : Int32).toNatClampNeg p1) (upd fha (mn : Int32).toNatClampNeg p2) (upd fhb9 (mn : Int32).toNatClampNeg p3) (upd fhc9 (mn : Int32).toNatClampNeg p4) z_33.toInt (v_up (v_nok ml mn p1 p2 p3 p4) gS mn p1) (v_up (v_nok ml mn p1 p2 p3 p4) gA mn p2) (v_up (v_nok ml mn p1 p2 p3 p4) gB mn p3) (v_up (v_nok ml mn p1 p2 p3 p4) gC mn (v_c3 p1 p4)) from k_nn_y hNR (by unfold v_nok; omega) (by omega) (by omega) (kN9_4 (by omega)) (fun k9 h9 => ⟨k_ul (by omega) h9, k_ul (by omega) h9⟩) (fun _ => k_ui) (fun h9 => ⟨k_ui, k_ui.trans (v_c3_y h9).symm⟩)), by rw [ht]; exact hP9, va_K.moved hW.alike hK9, hD9⟩⟩, hS.F ht⟩) hS.2.2 dX12_note_131
                · have k_36 : (p4).toInt > (9999 : Int) := z_nle c_23
                  refine lv_iconst (v := (-1)) hx hb dX12_note_72 (by decide) ?_
                  have hP9 := hP
                  have hD9 := hD
                  have hK9 := hK.sub (tys' := []) [] rfl
                  refine W.widen (k := 0) (n := 0) (Nat.le_of_ble_eq_true rfl) (Nat.le_of_ble_eq_true rfl) ?_
                  exact W.iret (v := (-1)) hx hb hr (fun t ht hW => ⟨⟨(-1), (), rfl, (show (-1) = v_noA ml mn p1 p2 p3 p4 from (v_noA_n (by unfold v_nok; omega)).symm), ⟨0, mn, fhs, fha, fhb9, fhc9, hB_mn, hI_hs, hI_ha, hR, (show mn = v_noN ml mn p1 p2 p3 p4 from (v_noN_n (by unfold v_nok; omega)).symm), (show k_nn fhs fha fhb9 fhc9 mn.toInt (v_up (v_nok ml mn p1 p2 p3 p4) gS mn p1) (v_up (v_nok ml mn p1 p2 p3 p4) gA mn p2) (v_up (v_nok ml mn p1 p2 p3 p4) gB mn p3) (v_up (v_nok ml mn p1 p2 p3 p4) gC mn (v_c3 p1 p4)) from k_nn_n hNR (by unfold v_nok; omega) rfl), by rw [ht]; exact hP9, va_K.moved hW.alike hK9, hD9⟩⟩, hS.F ht⟩) hS.2.2 dX12_note_73
          · have k_37 : (3 : Int) > (p1).toInt := z_nle c_15
            refine lv_aload_n hx hb dX12_note_38 rfl (lv_at hl 0 rfl) ?_
            refine lv_iload_n hx hb dX12_note_39 rfl (lv_at hl 3 rfl) ?_
            obtain ⟨hPc, hDc⟩ := z_sub2 (ws' := [(h0, .inr (12, [h0_0, h0_1, .int 0, .int ml, .int mn, .ref hs, .ref ha, .ref hb9, .ref hc9, h0_9, h0_10, h0_11, h0_12, h0_13, h0_14, h0_15, h0_16, h0_17, h0_18, h0_19, h0_20, h0_21, h0_22, h0_23, h0_24, h0_25, h0_26, h0_27, h0_28, h0_29, h0_30, h0_31, h0_32, h0_33, h0_34, h0_35, h0_36, h0_37, h0_38, h0_39, h0_40, h0_41, h0_42, h0_43, h0_44, h0_45, h0_46, h0_47, h0_48, h0_49, h0_50, h0_51, h0_52, h0_53, h0_54, h0_55, h0_56, h0_57, h0_58, h0_59, h0_60, h0_61, h0_62, h0_63, h0_64, h0_65, h0_66, h0_67, h0_68, h0_69]))]) hP hD [0] (by decide) rfl
            have hKc := hK.sub (tys' := []) [] rfl
            have hFc := va_free (ws := []) (wc := []) (z_D0 _) hS hA [] rfl
            refine va_calli (va_runV (As := [.int p3]) (rest := []) ⟨hx, hb, hml, hown, hts⟩ (s_X12_isLayerA l dC dI H_11.size h0 p3 h0_0 h0_1 (.int 0) ml (.int mn) (.ref hs) (.ref ha) (.ref hb9) (.ref hc9) h0_9 h0_10 h0_11 h0_12 h0_13 h0_14 h0_15 h0_16 h0_17 h0_18 h0_19 h0_20 h0_21 h0_22 h0_23 h0_24 h0_25 h0_26 h0_27 h0_28 h0_29 h0_30 h0_31 h0_32 h0_33 h0_34 h0_35 h0_36 h0_37 h0_38 h0_39 h0_40 h0_41 h0_42 h0_43 h0_44 h0_45 h0_46 h0_47 h0_48 h0_49 h0_50 h0_51 h0_52 h0_53 h0_54 h0_55 h0_56 h0_57 h0_58 h0_59 h0_60 h0_61 h0_62 h0_63 h0_64 h0_65 h0_66 h0_67 h0_68 h0_69 hB_ml) (cwV 1 hts gw_s_X12_noteK_s_X12_isLayerA_157 rfl rfl rfl (by decide +kernel) ⟨Nat.le_of_ble_eq_true rfl, Nat.le_of_ble_eq_true rfl⟩) ⟨z_blind, va_recv hKc hPc (ci := 12) (q0 := 0) rfl rfl, z_pre hPc hKc hDc⟩ rfl rfl hl.1 rfl (lv_room (Nat.le_of_ble_eq_true rfl)) dX12_note_40 ⟨Nat.le_of_ble_eq_true rfl, Nat.le_of_ble_eq_true rfl⟩) hS (fun q _ h => hFc q h) hFc (fun r_39 u t H_38 locs ht hvm hw_40 hB hz1 hk1 hS => ?_)
            replace hP := z_pure hP hk1
            clear hPc hDc hKc
            rcases hw_40 with ⟨rfl, hw_40⟩ | ⟨rfl, hw_40⟩
            · have hw_40 : (0 ≤ p3.toInt ∧ p3.toInt < ml.toInt) := hw_40
              refine lv_if_eq (tgt := 72) hx hb dX12_note_43 (by decide) (fun c_41 => absurd c_41 (by decide)) (fun _ => ?_)
              refine lv_iload_n hx hb dX12_note_46 rfl (lv_at hl 2 rfl) ?_
              refine lv_iload_n hx hb dX12_note_47 rfl (lv_at hl 3 rfl) ?_
              refine lv_icmp_ne (tgt := 74) hx hb dX12_note_48 (by decide) (fun c_42 => ?_) (fun c_42 => ?_)
              · have k_43 : (p2).toInt ≠ (p3).toInt := z_ne c_42
                refine lv_aload_n hx hb dX12_note_74 rfl (lv_at hl 0 rfl) ?_
                refine va_get (D := (dC, dI)) (ci := 12) (v := .ref hs) (C := RX12) (T := TX12) (N := 70) hx hb hts hiX12 hown hK hP 0 rfl rfl 5 (by decide) w__fieldLink_RX12_13_ShellHeapModel_sort_I_ (fun _ h9 => h9) rfl dX12_note_75 ?_
                refine lv_aload_n hx hb dX12_note_78 rfl (lv_at hl 0 rfl) ?_
                refine va_get (D := (dC, dI)) (ci := 12) (v := .int mn) (C := RX12) (T := TX12) (N := 70) hx hb hts hiX12 hown hK hP 0 rfl rfl 4 (by decide) w__fieldLink_RX12_154_ShellHeapModel_notes_I_ (fun _ h9 => h9) rfl dX12_note_79 ?_
                refine lv_iload_n hx hb dX12_note_82 rfl (lv_at hl 1 rfl) ?_
                refine va_iast hx hb hK hP hD hS 1 0 rfl rfl (z_vpin (by omega) (by omega)) dX12_note_83 (fun H_44 locs hP hD hS => ?_)
                obtain ⟨hP, hD⟩ := z_s_1 hP hD
                have hI_f_45 : ∀ j : Nat, ((0 : Int) ≤ ((upd fhs (mn : Int32).toNatClampNeg p1) j).toInt ∧ ((upd fhs (mn : Int32).toNatClampNeg p1) j).toInt ≤ (9 : Int)) := z_updP (P := fun v => ((0 : Int) ≤ (v).toInt ∧ (v).toInt ≤ (9 : Int))) hI_hs (show ((0 : Int) ≤ (p1).toInt ∧ (p1).toInt ≤ (9 : Int)) from by first | omega | decide)
                refine lv_aload_n hx hb dX12_note_84 rfl (lv_at hl 0 rfl) ?_
                refine va_get (D := (dC, dI)) (ci := 12) (v := .ref ha) (C := RX12) (T := TX12) (N := 70) hx hb hts hiX12 hown hK hP 0 rfl rfl 6 (by decide) w__fieldLink_RX12_16_ShellHeapModel_noteA_I_ (fun _ h9 => h9) rfl dX12_note_85 ?_
                refine lv_aload_n hx hb dX12_note_88 rfl (lv_at hl 0 rfl) ?_
                refine va_get (D := (dC, dI)) (ci := 12) (v := .int mn) (C := RX12) (T := TX12) (N := 70) hx hb hts hiX12 hown hK hP 0 rfl rfl 4 (by decide) w__fieldLink_RX12_154_ShellHeapModel_notes_I_ (fun _ h9 => h9) rfl dX12_note_89 ?_
                refine lv_iload_n hx hb dX12_note_92 rfl (lv_at hl 2 rfl) ?_
                refine va_iast hx hb hK hP hD hS 2 1 rfl rfl (z_vpin (by omega) (by omega)) dX12_note_93 (fun H_46 locs hP hD hS => ?_)
                obtain ⟨hP, hD⟩ := z_s_2 hP hD
                have hI_f_47 : ∀ j : Nat, ((0 : Int) ≤ ((upd fha (mn : Int32).toNatClampNeg p2) j).toInt ∧ ((upd fha (mn : Int32).toNatClampNeg p2) j).toInt ≤ (79 : Int)) := z_updP (P := fun v => ((0 : Int) ≤ (v).toInt ∧ (v).toInt ≤ (79 : Int))) hI_ha (show ((0 : Int) ≤ (p2).toInt ∧ (p2).toInt ≤ (79 : Int)) from by first | omega | decide)
                refine lv_aload_n hx hb dX12_note_94 rfl (lv_at hl 0 rfl) ?_
                refine va_get (D := (dC, dI)) (ci := 12) (v := .ref hb9) (C := RX12) (T := TX12) (N := 70) hx hb hts hiX12 hown hK hP 0 rfl rfl 7 (by decide) w__fieldLink_RX12_19_ShellHeapModel_noteB_I_ (fun _ h9 => h9) rfl dX12_note_95 ?_
                refine lv_aload_n hx hb dX12_note_98 rfl (lv_at hl 0 rfl) ?_
                refine va_get (D := (dC, dI)) (ci := 12) (v := .int mn) (C := RX12) (T := TX12) (N := 70) hx hb hts hiX12 hown hK hP 0 rfl rfl 4 (by decide) w__fieldLink_RX12_154_ShellHeapModel_notes_I_ (fun _ h9 => h9) rfl dX12_note_99 ?_
                refine lv_iload_n hx hb dX12_note_102 rfl (lv_at hl 3 rfl) ?_
                refine va_iast hx hb hK hP hD hS 3 2 rfl rfl (z_vpin (by omega) (by omega)) dX12_note_103 (fun H_48 locs hP hD hS => ?_)
                obtain ⟨hP, hD⟩ := z_s_3 hP hD
                refine lv_aload_n hx hb dX12_note_104 rfl (lv_at hl 0 rfl) ?_
                refine va_get (D := (dC, dI)) (ci := 12) (v := .ref hc9) (C := RX12) (T := TX12) (N := 70) hx hb hts hiX12 hown hK hP 0 rfl rfl 8 (by decide) w__fieldLink_RX12_22_ShellHeapModel_noteC_I_ (fun _ h9 => h9) rfl dX12_note_105 ?_
                refine lv_aload_n hx hb dX12_note_108 rfl (lv_at hl 0 rfl) ?_
                refine va_get (D := (dC, dI)) (ci := 12) (v := .int mn) (C := RX12) (T := TX12) (N := 70) hx hb hts hiX12 hown hK hP 0 rfl rfl 4 (by decide) w__fieldLink_RX12_154_ShellHeapModel_notes_I_ (fun _ h9 => h9) rfl dX12_note_109 ?_
                refine lv_iload hx hb dX12_note_112 (lv_at hl 4 rfl) ?_
                refine va_iast hx hb hK hP hD hS 4 3 rfl rfl (z_vpin (by omega) (by omega)) dX12_note_114 (fun H_50 locs hP hD hS => ?_)
                obtain ⟨hP, hD⟩ := z_s_4 hP hD
                refine lv_aload_n hx hb dX12_note_115 rfl (lv_at hl 0 rfl) ?_
                refine lv_dup hx hb dX12_note_116 rfl ?_
                refine va_get (D := (dC, dI)) (ci := 12) (v := .int mn) (C := RX12) (T := TX12) (N := 70) hx hb hts hiX12 hown hK hP 0 rfl rfl 4 (by decide) w__fieldLink_RX12_154_ShellHeapModel_notes_I_ (fun _ h9 => h9) rfl dX12_note_117 ?_
                refine lv_iconst (v := 1) hx hb dX12_note_120 (by decide) ?_
                refine lv_iadd hx hb dX12_note_121 ?_
                refine lv_topi (fun z_52 ez_52 => ?_)
                have kz_52 : (z_52).toInt = (mn).toInt + (1 : Int) := by rw [ez_52]; exact z_add (a := (mn).toInt) (b := (1 : Int)) rfl rfl (z_al hB_mn.1 (by decide)) (z_ah hB_mn.2 (by decide))
                refine va_put (D := (dC, dI)) (ci := 12) (v := .int z_52) (ty := .int) (C := RX12) (T := TX12) (N := 70) hx hb hts hiX12 tyX12 tyX12_ok nmX12 hown hK hP hD hS 0 rfl rfl 4 (by decide) w__fieldLink_RX12_154_ShellHeapModel_notes_I_ (fun _ h9 => h9) rfl (by decide +kernel) rfl rfl (Nat.le_of_ble_eq_true rfl) dX12_note_122 (fun H_53 locs hP hD hS => ?_)
                obtain ⟨hP, hD⟩ := z_s_0_4 hP hD
                refine lv_aload_n hx hb dX12_note_125 rfl (lv_at hl 0 rfl) ?_
                refine va_get (D := (dC, dI)) (ci := 12) (v := .int z_52) (C := RX12) (T := TX12) (N := 70) hx hb hts hiX12 hown hK hP 0 rfl rfl 4 (by decide) w__fieldLink_RX12_154_ShellHeapModel_notes_I_ (fun _ h9 => h9) rfl dX12_note_126 ?_
                refine lv_iconst (v := 1) hx hb dX12_note_129 (by decide) ?_
                refine lv_isub hx hb dX12_note_130 ?_
                refine lv_topi (fun z_54 ez_54 => ?_)
                have kz_54 : (z_54).toInt = (z_52).toInt - (1 : Int) := by rw [ez_54]; exact z_sub (a := (z_52).toInt) (b := (1 : Int)) rfl rfl (by omega) (by omega)
                have hP9 := hP
                have hD9 := hD
                have hK9 := hK.sub (tys' := []) [] rfl
                refine W.widen (k := 0) (n := 0) (Nat.le_of_ble_eq_true rfl) (Nat.le_of_ble_eq_true rfl) ?_
                exact W.iret (v := z_54) hx hb hr (fun t ht hW => ⟨⟨z_54, (), rfl, (show z_54 = v_noA ml mn p1 p2 p3 p4 from (z_ii (show (z_54).toInt = (mn).toInt by omega)).trans (v_noA_y (by unfold v_nok; omega)).symm), ⟨0, z_52, (upd fhs (mn : Int32).toNatClampNeg p1), (upd fha (mn : Int32).toNatClampNeg p2), (upd fhb9 (mn : Int32).toNatClampNeg p3), (upd fhc9 (mn : Int32).toNatClampNeg p4), (by first | omega | decide), hI_f_45, hI_f_47, (z_relm_upd hR (show ((0 : Int) ≤ (p2).toInt ∧ (p2).toInt ≤ (79 : Int)) ∧ ((p1).toInt ≠ (9 : Int) → (p2).toInt ≤ (11 : Int)) ∧ ((p1).toInt ≤ (2 : Int) → (0 : Int) ≤ (p3).toInt ∧ (p3).toInt ≤ (11 : Int)) by omega)), (show z_52 = v_noN ml mn p1 p2 p3 p4 from ez_52.trans (v_noN_y (by unfold v_nok; omega)).symm), (show k_nn (upd fhs (mn : Int32).toNatClampNeg p1) (upd fha (mn : Int32).toNatClampNeg p2) (upd fhb9 (mn : Int32).toNatClampNeg p3) (upd fhc9 (mn : Int32).toNatClampNeg p4) z_52.toInt (v_up (v_nok ml mn p1 p2 p3 p4) gS mn p1) (v_up (v_nok ml mn p1 p2 p3 p4) gA mn p2) (v_up (v_nok ml mn p1 p2 p3 p4) gB mn p3) (v_up (v_nok ml mn p1 p2 p3 p4) gC mn (v_c3 p1 p4)) from k_nn_y hNR (by unfold v_nok; omega) (by omega) (by omega) (kN9_4 (by omega)) (fun k9 h9 => ⟨k_ul (by omega) h9, k_ul (by omega) h9⟩) (fun _ => k_ui) (fun h9 => ⟨k_ui, k_ui.trans (v_c3_y h9).symm⟩)), by rw [ht]; exact hP9, va_K.moved hW.alike hK9, hD9⟩⟩, hS.F ht⟩) hS.2.2 dX12_note_131
              · have k_55 : (p2).toInt = (p3).toInt := z_eq c_42
                refine lv_goto (tgt := 72) hx hb dX12_note_51 (by decide) ?_
                refine lv_iconst (v := (-1)) hx hb dX12_note_72 (by decide) ?_
                have hP9 := hP
                have hD9 := hD
                have hK9 := hK.sub (tys' := []) [] rfl
                refine W.widen (k := 0) (n := 0) (Nat.le_of_ble_eq_true rfl) (Nat.le_of_ble_eq_true rfl) ?_
                exact W.iret (v := (-1)) hx hb hr (fun t ht hW => ⟨⟨(-1), (), rfl, (show (-1) = v_noA ml mn p1 p2 p3 p4 from (v_noA_n (by unfold v_nok; omega)).symm), ⟨0, mn, fhs, fha, fhb9, fhc9, hB_mn, hI_hs, hI_ha, hR, (show mn = v_noN ml mn p1 p2 p3 p4 from (v_noN_n (by unfold v_nok; omega)).symm), (show k_nn fhs fha fhb9 fhc9 mn.toInt (v_up (v_nok ml mn p1 p2 p3 p4) gS mn p1) (v_up (v_nok ml mn p1 p2 p3 p4) gA mn p2) (v_up (v_nok ml mn p1 p2 p3 p4) gB mn p3) (v_up (v_nok ml mn p1 p2 p3 p4) gC mn (v_c3 p1 p4)) from k_nn_n hNR (by unfold v_nok; omega) rfl), by rw [ht]; exact hP9, va_K.moved hW.alike hK9, hD9⟩⟩, hS.F ht⟩) hS.2.2 dX12_note_73
            · have hw_40 : ¬ (0 ≤ p3.toInt ∧ p3.toInt < ml.toInt) := hw_40
              refine lv_if_eq (tgt := 72) hx hb dX12_note_43 (by decide) (fun _ => ?_) (fun c_56 => absurd (by decide) c_56)
              refine lv_iconst (v := (-1)) hx hb dX12_note_72 (by decide) ?_
              have hP9 := hP
              have hD9 := hD
              have hK9 := hK.sub (tys' := []) [] rfl
              refine W.widen (k := 0) (n := 0) (Nat.le_of_ble_eq_true rfl) (Nat.le_of_ble_eq_true rfl) ?_
              exact W.iret (v := (-1)) hx hb hr (fun t ht hW => ⟨⟨(-1), (), rfl, (show (-1) = v_noA ml mn p1 p2 p3 p4 from (v_noA_n (by unfold v_nok; omega)).symm), ⟨0, mn, fhs, fha, fhb9, fhc9, hB_mn, hI_hs, hI_ha, hR, (show mn = v_noN ml mn p1 p2 p3 p4 from (v_noN_n (by unfold v_nok; omega)).symm), (show k_nn fhs fha fhb9 fhc9 mn.toInt (v_up (v_nok ml mn p1 p2 p3 p4) gS mn p1) (v_up (v_nok ml mn p1 p2 p3 p4) gA mn p2) (v_up (v_nok ml mn p1 p2 p3 p4) gB mn p3) (v_up (v_nok ml mn p1 p2 p3 p4) gC mn (v_c3 p1 p4)) from k_nn_n hNR (by unfold v_nok; omega) rfl), by rw [ht]; exact hP9, va_K.moved hW.alike hK9, hD9⟩⟩, hS.F ht⟩) hS.2.2 dX12_note_73
        · have hw_13 : ¬ (0 ≤ p2.toInt ∧ p2.toInt < ml.toInt) := hw_13
          refine lv_if_ne (tgt := 33) hx hb dX12_note_28 (by decide) (fun c_57 => absurd c_57 (by decide)) (fun _ => ?_)
          refine lv_iconst (v := (-1)) hx hb dX12_note_31 (by decide) ?_
          have hP9 := hP
          have hD9 := hD
          have hK9 := hK.sub (tys' := []) [] rfl
          refine W.widen (k := 0) (n := 0) (Nat.le_of_ble_eq_true rfl) (Nat.le_of_ble_eq_true rfl) ?_
          exact W.iret (v := (-1)) hx hb hr (fun t ht hW => ⟨⟨(-1), (), rfl, (show (-1) = v_noA ml mn p1 p2 p3 p4 from (v_noA_n (by unfold v_nok; omega)).symm), ⟨0, mn, fhs, fha, fhb9, fhc9, hB_mn, hI_hs, hI_ha, hR, (show mn = v_noN ml mn p1 p2 p3 p4 from (v_noN_n (by unfold v_nok; omega)).symm), (show k_nn fhs fha fhb9 fhc9 mn.toInt (v_up (v_nok ml mn p1 p2 p3 p4) gS mn p1) (v_up (v_nok ml mn p1 p2 p3 p4) gA mn p2) (v_up (v_nok ml mn p1 p2 p3 p4) gB mn p3) (v_up (v_nok ml mn p1 p2 p3 p4) gC mn (v_c3 p1 p4)) from k_nn_n hNR (by unfold v_nok; omega) rfl), by rw [ht]; exact hP9, va_K.moved hW.alike hK9, hD9⟩⟩, hS.F ht⟩) hS.2.2 dX12_note_32
def u_s_X11_strikeK : List Cond := .code yX11_strike cX11_strike 2 (some .int) :: ([.fieldLink RX11 19 "ShellHeap" "book" "LShellHeap$Book;", .fieldLink RX11 121 "ShellHeap$Book" "notes" "I", .methodLink RX11 127 yX0_write, .instanceMethod yX0_write, .selects RX0 yX0_write yX0_write, .initialized RX0] ++ (wsX110 ++ (wsX00 ++ (u_s_X0_writeK ++ []))))
set_option maxRecDepth 20000 in
theorem gw_s_X11_strikeK_s_X0_writeK_127 : GoodIn u_s_X11_strikeK (wsV RX11 127 RX0 yX0_write u_s_X0_writeK) := z_gV (z_gr _ [3, 4, 5, 6] rfl (by decide +kernel)) (fun w h => ⟨z_mc (z_mr (z_mr (z_mr (z_ml h)))), gd_s_X0_writeK w h⟩)
set_option maxHeartbeats 4000000 in
set_option maxRecDepth 100000 in
theorem s_X11_strikeK (l : Launch) (dC : Nat → ClassId) (dI : Nat → Nat → Nat) (sz : Nat) (h0 : Nat) (p1 : Int32) (h0_0 : Value) (h1 : Nat) (h0_2 : Value) (h0_3 : Value) (h0_4 : Value) (h0_5 : Value) (h0_6 : Value) (h0_7 : Value) (h0_8 : Value) (h0_9 : Value) (hs : Nat) (ha : Nat) (hb9 : Nat) (hc9 : Nat) (bn : Int32) (bl : Int32) (chs : ClassId) (fhs : Nat → Int32) (cha : ClassId) (fha : Nat → Int32) (chb9 : ClassId) (fhb9 : Nat → Int32) (chc9 : ClassId) (fhc9 : Nat → Int32) (hB_bn : ((0 : Int) ≤ (bn).toInt ∧ (bn).toInt ≤ (80 : Int))) (hB_bl : ((0 : Int) ≤ (bl).toInt ∧ (bl).toInt ≤ (12 : Int))) (hI_ha : ∀ j : Nat, ((0 : Int) ≤ (fha j).toInt ∧ (fha j).toInt ≤ (79 : Int))) (hR : ∀ j : Nat, z_rel (fhs j) (fha j) (fhb9 j)) : Met l yX11_strike u_s_X11_strikeK ({ frames := 2, cells := 0, slots := 0, locals := 44 }) (va_Pc [.ref h0, .int p1] (z_C (dC, dI) vwCl [(h0, .inr (11, [h0_0, .ref h1, h0_2, h0_3, h0_4, h0_5, h0_6, h0_7, h0_8, h0_9])), (h1, .inr (0, [.ref hs, .ref ha, .ref hb9, .ref hc9, .int bn, .int bl])), (hs, .inl (chs, 80, .inl fhs)), (ha, .inl (cha, 80, .inl fha)), (hb9, .inl (chb9, 80, .inl fhb9)), (hc9, .inl (chc9, 80, .inl fhc9))] [(chs, .int), (cha, .int), (chb9, .int), (chc9, .int)] sz)) (va_Qi (fun (r : Int32) (_ : Unit) => r = v_stA bn p1) (fun (_ : Unit) (t : State) => ∃ (n_h1_notes : Int32), ∃ (g_hs : Nat → Int32), ∃ (g_ha : Nat → Int32), ∃ (g_hb9 : Nat → Int32), ∃ (g_hc9 : Nat → Int32), ((0 : Int) ≤ (n_h1_notes).toInt ∧ (n_h1_notes).toInt ≤ (80 : Int)) ∧ (∀ j : Nat, ((0 : Int) ≤ (g_ha j).toInt ∧ (g_ha j).toInt ≤ (79 : Int))) ∧ (∀ j : Nat, z_rel (g_hs j) (g_ha j) (g_hb9 j)) ∧ (n_h1_notes = v_stN bn p1) ∧ (g_hs = v_up (v_stP bn p1) fhs bn 5) ∧ (g_ha = v_up (v_stP bn p1) fha bn p1) ∧ (g_hb9 = v_up (v_stP bn p1) fhb9 bn 0) ∧ (g_hc9 = v_up (v_stP bn p1) fhc9 bn 0) ∧ va_P (dC, dI) vwCl [(h0, .inr (11, [h0_0, .ref h1, h0_2, h0_3, h0_4, h0_5, h0_6, h0_7, h0_8, h0_9])), (h1, .inr (0, [.ref hs, .ref ha, .ref hb9, .ref hc9, .int n_h1_notes, .int bl])), (hs, .inl (chs, 80, .inl g_hs)), (ha, .inl (cha, 80, .inl g_ha)), (hb9, .inl (chb9, 80, .inl g_hb9)), (hc9, .inl (chc9, 80, .inl g_hc9))] t.heap ∧ va_K (dC, dI) vwCl [] t ∧ va_D (va_A [(h0, .inr (11, [h0_0, .ref h1, h0_2, h0_3, h0_4, h0_5, h0_6, h0_7, h0_8, h0_9])), (h1, .inr (0, [.ref hs, .ref ha, .ref hb9, .ref hc9, .int bn, .int bl])), (hs, .inl (chs, 80, .inl fhs)), (ha, .inl (cha, 80, .inl fha)), (hb9, .inl (chb9, 80, .inl fhb9)), (hc9, .inl (chc9, 80, .inl fhc9))] sz) [(h0, .inr (11, [h0_0, .ref h1, h0_2, h0_3, h0_4, h0_5, h0_6, h0_7, h0_8, h0_9])), (h1, .inr (0, [.ref hs, .ref ha, .ref hb9, .ref hc9, .int n_h1_notes, .int bl])), (hs, .inl (chs, 80, .inl g_hs)), (ha, .inl (cha, 80, .inl g_ha)), (hb9, .inl (chb9, 80, .inl g_hb9)), (hc9, .inl (chc9, 80, .inl g_hc9))]) (va_A [(h0, .inr (11, [h0_0, .ref h1, h0_2, h0_3, h0_4, h0_5, h0_6, h0_7, h0_8, h0_9])), (h1, .inr (0, [.ref hs, .ref ha, .ref hb9, .ref hc9, .int bn, .int bl])), (hs, .inl (chs, 80, .inl fhs)), (ha, .inl (cha, 80, .inl fha)), (hb9, .inl (chb9, 80, .inl fhb9)), (hc9, .inl (chc9, 80, .inl fhc9))] sz)) 0 0 (va_A [(h0, .inr (11, [h0_0, .ref h1, h0_2, h0_3, h0_4, h0_5, h0_6, h0_7, h0_8, h0_9])), (h1, .inr (0, [.ref hs, .ref ha, .ref hb9, .ref hc9, .int bn, .int bl])), (hs, .inl (chs, 80, .inl fhs)), (ha, .inl (cha, 80, .inl fha)), (hb9, .inl (chb9, 80, .inl fhb9)), (hc9, .inl (chc9, 80, .inl fhc9))] sz) := by
  refine Met.ofW (cc := cX11_strike) (maxL := 2) (ret := (some .int)) (by decide) rfl ?_
  intro p e s m args below meth c s₁ B hml hv
  obtain ⟨rfl, hsz, hP, hK, hD0⟩ := hv
  have hx := B.exec
  have hb := B.bytes
  have hr := B.returns
  have hts := atoms_spec (ws := u_s_X11_strikeK) B.pre
  have hown : s.vm.findClass RX11 = some m.cls := findClass_of_methodNamed B.named
  have hlocks := B.notSynchronized
  subst hsz
  have hD := hD0.self (sz := s.heap.size)
  generalize hAe : va_A [(h0, .inr (11, [h0_0, .ref h1, h0_2, h0_3, h0_4, h0_5, h0_6, h0_7, h0_8, h0_9])), (h1, .inr (0, [.ref hs, .ref ha, .ref hb9, .ref hc9, .int bn, .int bl])), (hs, .inl (chs, 80, .inl fhs)), (ha, .inl (cha, 80, .inl fha)), (hb9, .inl (chb9, 80, .inl fhb9)), (hc9, .inl (chc9, 80, .inl fhc9))] s.heap.size = A at hD ⊢
  have hA : ∀ q : Nat, s.heap.size ≤ q → A q := fun q h => by rw [← hAe]; exact Or.inr h
  have hS : va_S A s.heap s.heap [] := va_S.rf
  have hP : va_P (dC, dI) vwCl [(h0, .inr (11, [h0_0, .ref h1, h0_2, h0_3, h0_4, h0_5, h0_6, h0_7, h0_8, h0_9])), (h1, .inr (0, [.ref hs, .ref ha, .ref hb9, .ref hc9, .int bn, .int bl])), (hs, .inl (chs, 80, .inl fhs)), (ha, .inl (cha, 80, .inl fha)), (hb9, .inl (chb9, 80, .inl fhb9)), (hc9, .inl (chc9, 80, .inl fhc9))] s.heap := hP
  have w__fieldLink_RX11_19_ShellHeap_book_LShellHeap_Book_ := hts (.fieldLink RX11 19 "ShellHeap" "book" "LShellHeap$Book;") (z_mc (z_ml z_m0))
  have hiX11 := show ∀ w ∈ u_ws RX11 TX11 10, w ∈ u_s_X11_strikeK from fun w h => z_mc (z_mr (z_ml h))
  have w__fieldLink_RX11_121_ShellHeap_Book_notes_I_ := hts (.fieldLink RX11 121 "ShellHeap$Book" "notes" "I") (z_mc (z_ml z_m1))
  have hiX0 := show ∀ w ∈ u_ws RX0 TX0 6, w ∈ u_s_X11_strikeK from fun w h => z_mc (z_mr (z_mr (z_ml h)))
  have krr_p1 := z_rng p1
  have hl := lv_entry ([.ref h0, .int p1]) (n := 2) (Nat.le_of_ble_eq_true rfl)
  rw [lg_entry_eq]
  generalize (lg_sl ([.ref h0, .int p1]) ++ List.replicate (2 - (lg_sl ([.ref h0, .int p1])).length) Slot.unset).toArray = ls at hl ⊢
  have hl : lv_has ls 2 [(0, .ref h0), (1, .int p1)] := hl
  refine lv_iload_n hx hb dX11_strike_0 rfl (lv_at hl 1 rfl) ?_
  refine lv_if_lt (tgt := 29) hx hb dX11_strike_1 (by decide) (fun c_1 => ?_) (fun c_1 => ?_)
  · have k_2 : (p1).toInt < (0 : Int) := z_lt c_1
    refine lv_iconst (v := (-1)) hx hb dX11_strike_29 (by decide) ?_
    have hP9 := hP
    have hD9 := hD
    have hK9 := hK.sub (tys' := []) [] rfl
    refine W.widen (k := 0) (n := 0) (Nat.le_of_ble_eq_true rfl) (Nat.le_of_ble_eq_true rfl) ?_
    exact W.iret (v := (-1)) hx hb hr (fun t ht hW => ⟨⟨(-1), (), rfl, (show (-1) = v_stA bn p1 by unfold v_stA; rw [if_neg (by omega)]), ⟨bn, fhs, fha, fhb9, fhc9, hB_bn, hI_ha, hR, (show bn = v_stN bn p1 by unfold v_stN; rw [if_neg (by omega)]), (show fhs = v_up (v_stP bn p1) fhs bn 5 from (v_up_n (by unfold v_stP; omega)).symm), (show fha = v_up (v_stP bn p1) fha bn p1 from (v_up_n (by unfold v_stP; omega)).symm), (show fhb9 = v_up (v_stP bn p1) fhb9 bn 0 from (v_up_n (by unfold v_stP; omega)).symm), (show fhc9 = v_up (v_stP bn p1) fhc9 bn 0 from (v_up_n (by unfold v_stP; omega)).symm), by rw [ht]; exact hP9, va_K.moved hW.alike hK9, hD9⟩⟩, hS.F ht⟩) hS.2.2 dX11_strike_30
  · have k_3 : (p1).toInt ≥ (0 : Int) := z_nlt c_1
    refine lv_iload_n hx hb dX11_strike_4 rfl (lv_at hl 1 rfl) ?_
    refine lv_aload_n hx hb dX11_strike_5 rfl (lv_at hl 0 rfl) ?_
    refine va_get (D := (dC, dI)) (ci := 11) (v := .ref h1) (C := RX11) (T := TX11) (N := 10) hx hb hts hiX11 hown hK hP 0 rfl rfl 1 (by decide) w__fieldLink_RX11_19_ShellHeap_book_LShellHeap_Book_ (fun _ h9 => h9) rfl dX11_strike_6 ?_
    refine va_get (D := (dC, dI)) (ci := 0) (v := .int bn) (C := RX0) (T := TX0) (N := 6) hx hb hts hiX0 hown hK hP 1 rfl rfl 4 (by decide) w__fieldLink_RX11_121_ShellHeap_Book_notes_I_ (fun _ h9 => h9) rfl dX11_strike_9 ?_
    refine lv_icmp_ge (tgt := 29) hx hb dX11_strike_12 (by decide) (fun c_4 => ?_) (fun c_4 => ?_)
    · have k_5 : (bn).toInt ≤ (p1).toInt := z_le c_4
      refine lv_iconst (v := (-1)) hx hb dX11_strike_29 (by decide) ?_
      have hP9 := hP
      have hD9 := hD
      have hK9 := hK.sub (tys' := []) [] rfl
      refine W.widen (k := 0) (n := 0) (Nat.le_of_ble_eq_true rfl) (Nat.le_of_ble_eq_true rfl) ?_
      exact W.iret (v := (-1)) hx hb hr (fun t ht hW => ⟨⟨(-1), (), rfl, (show (-1) = v_stA bn p1 by unfold v_stA; rw [if_neg (by omega)]), ⟨bn, fhs, fha, fhb9, fhc9, hB_bn, hI_ha, hR, (show bn = v_stN bn p1 by unfold v_stN; rw [if_neg (by omega)]), (show fhs = v_up (v_stP bn p1) fhs bn 5 from (v_up_n (by unfold v_stP; omega)).symm), (show fha = v_up (v_stP bn p1) fha bn p1 from (v_up_n (by unfold v_stP; omega)).symm), (show fhb9 = v_up (v_stP bn p1) fhb9 bn 0 from (v_up_n (by unfold v_stP; omega)).symm), (show fhc9 = v_up (v_stP bn p1) fhc9 bn 0 from (v_up_n (by unfold v_stP; omega)).symm), by rw [ht]; exact hP9, va_K.moved hW.alike hK9, hD9⟩⟩, hS.F ht⟩) hS.2.2 dX11_strike_30
    · have k_6 : (bn).toInt > (p1).toInt := z_nle c_4
      refine lv_aload_n hx hb dX11_strike_15 rfl (lv_at hl 0 rfl) ?_
      refine va_get (D := (dC, dI)) (ci := 11) (v := .ref h1) (C := RX11) (T := TX11) (N := 10) hx hb hts hiX11 hown hK hP 0 rfl rfl 1 (by decide) w__fieldLink_RX11_19_ShellHeap_book_LShellHeap_Book_ (fun _ h9 => h9) rfl dX11_strike_16 ?_
      refine lv_iconst (v := 5) hx hb dX11_strike_19 (by decide) ?_
      refine lv_iload_n hx hb dX11_strike_20 rfl (lv_at hl 1 rfl) ?_
      refine lv_iconst (v := 0) hx hb dX11_strike_21 (by decide) ?_
      refine lv_iconst (v := 0) hx hb dX11_strike_22 (by decide) ?_
      obtain ⟨hPc, hDc, hFc⟩ := z_sub3 (ws' := [(h1, .inr (0, [.ref hs, .ref ha, .ref hb9, .ref hc9, .int bn, .int bl])), (hs, .inl (chs, 80, .inl fhs)), (ha, .inl (cha, 80, .inl fha)), (hb9, .inl (chb9, 80, .inl fhb9)), (hc9, .inl (chc9, 80, .inl fhc9))]) hP hD hS hA [1, 2, 3, 4, 5] (by decide) rfl
      have hKc := hK
      refine va_calli (va_runV (As := [.int 5, .int p1, .int 0, .int 0]) (rest := []) ⟨hx, hb, hml, hown, hts⟩ (s_X0_writeK l dC dI s.heap.size h1 5 p1 0 0 hs ha hb9 hc9 bn (.int bl) chs fhs cha fha chb9 fhb9 chc9 fhc9 hB_bn (by first | omega | decide) hI_ha hR (show ((0 : Int) ≤ (p1).toInt ∧ (p1).toInt ≤ (79 : Int)) ∧ ((5 : Int) ≠ (5 : Int) → (p1).toInt ≤ (11 : Int)) ∧ ((5 : Int) ≤ (2 : Int) → (0 : Int) ≤ (0 : Int) ∧ (0 : Int) ≤ (11 : Int)) by omega)) (cwV 4 hts gw_s_X11_strikeK_s_X0_writeK_127 rfl rfl rfl (by decide +kernel) ⟨Nat.le_of_ble_eq_true rfl, Nat.le_of_ble_eq_true rfl⟩) ⟨z_blind, va_recv hKc hPc (ci := 0) (q0 := 0) rfl rfl, z_pre hPc hKc hDc⟩ rfl rfl hl.1 rfl (lv_room (Nat.le_of_ble_eq_true rfl)) dX11_strike_23 ⟨Nat.le_of_ble_eq_true rfl, Nat.le_of_ble_eq_true rfl⟩) hS (fun q _ h => hFc q h) hFc (fun r_8 u t H_7 locs ht hvm hw_9 hB hz1 hk1 hS => ?_)
      obtain ⟨n_h0_notes_10, g_hs_11, g_ha_12, g_hb9_13, g_hc9_14, hp_15, hp_16, hp_17, hp_18, hp_19, hp_20, hp_21, hp_22, hP1, hK1, hD1⟩ := hB
      rw [ht] at hP1
      have hK1 := va_K.moved hvm.symm hK1
      obtain ⟨hP, hD⟩ := z_ap_1 (va_join (wr := [(h0, .inr (11, [h0_0, .ref h1, h0_2, h0_3, h0_4, h0_5, h0_6, h0_7, h0_8, h0_9]))]) hP hD [1, 2, 3, 4, 5] [0] rfl rfl (by decide) (by decide) hk1 hFc hP1 hD1)
      have hR := hp_17
      have hp_18 : n_h0_notes_10 = v_wrN bn := hp_18
      have hp_19 : g_hs_11 = v_up (bn.toInt < 80) fhs bn 5 := hp_19
      have hp_20 : g_ha_12 = v_up (bn.toInt < 80) fha bn p1 := hp_20
      have hp_21 : g_hb9_13 = v_up (bn.toInt < 80) fhb9 bn 0 := hp_21
      have hp_22 : g_hc9_14 = v_up (bn.toInt < 80) fhc9 bn 0 := hp_22
      clear hPc hDc hKc
      refine lv_goto (tgt := 30) hx hb dX11_strike_26 (by decide) ?_
      have hP9 := hP
      have hD9 := hD
      have hK9 := hK.sub (tys' := []) [] rfl
      refine W.widen (k := 0) (n := 0) (Nat.le_of_ble_eq_true rfl) (Nat.le_of_ble_eq_true rfl) ?_
      exact W.iret (v := r_8) hx hb hr (fun t ht hW => ⟨⟨r_8, (), rfl, (show r_8 = v_stA bn p1 from hw_9.trans (by unfold v_wrA v_stA; exact v_ite (by omega))), ⟨n_h0_notes_10, g_hs_11, g_ha_12, g_hb9_13, g_hc9_14, hp_15, hp_16, hR, (show n_h0_notes_10 = v_stN bn p1 from hp_18.trans (by unfold v_wrN v_stN; exact v_ite (by omega))), (show g_hs_11 = v_up (v_stP bn p1) fhs bn 5 from hp_19.trans (v_up_c (by unfold v_stP; omega) rfl)), (show g_ha_12 = v_up (v_stP bn p1) fha bn p1 from hp_20.trans (v_up_c (by unfold v_stP; omega) rfl)), (show g_hb9_13 = v_up (v_stP bn p1) fhb9 bn 0 from hp_21.trans (v_up_c (by unfold v_stP; omega) rfl)), (show g_hc9_14 = v_up (v_stP bn p1) fhc9 bn 0 from hp_22.trans (v_up_c (by unfold v_stP; omega) rfl)), by rw [ht]; exact hP9, va_K.moved hW.alike hK9, hD9⟩⟩, hS.F ht⟩) hS.2.2 dX11_strike_30
