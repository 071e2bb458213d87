def u_s_X11_note3 : List Cond := .code yX11_note cX11_note 5 (some .int) :: ([.fieldLink RX11 19 "ShellHeap" "book" "LShellHeap$Book;", .methodLink RX11 115 yX0_hasLayer, .instanceMethod yX0_hasLayer, .selects RX0 yX0_hasLayer yX0_hasLayer, .initialized RX0, .code yX0_hasLayer cX0_hasLayer 2 (some .boolean), .fieldLink RX0 28 "ShellHeap$Book" "layers" "I", .methodLink RX11 127 yX0_write, .instanceMethod yX0_write, .selects RX0 yX0_write yX0_write, .code yX0_write cX0_write 5 (some .int), .methodLink RX0 31 yX0_isFull, .instanceMethod yX0_isFull, .selects RX0 yX0_isFull yX0_isFull, .code yX0_isFull cX0_isFull 1 (some .boolean), .fieldLink RX0 24 "ShellHeap$Book" "notes" "I", .fieldLink RX0 9 "ShellHeap$Book" "sort" "[I", .fieldLink RX0 15 "ShellHeap$Book" "a" "[I", .fieldLink RX0 18 "ShellHeap$Book" "b" "[I", .fieldLink RX0 21 "ShellHeap$Book" "c" "[I"] ++ wsX110 ++ wsX00)
set_option maxRecDepth 20000 in
theorem gw_s_X11_note3_s_X0_hasLayerA_115 : GoodIn u_s_X11_note3 (wsV RX11 115 RX0 yX0_hasLayer u_s_X0_hasLayerA) := z_gr _ [2, 3, 4, 5, 6, 7, 31, 32, 33, 34, 35, 36] rfl (by decide +kernel)
set_option maxRecDepth 20000 in
theorem gw_s_X11_note3_s_X0_write3_127 : GoodIn u_s_X11_note3 (wsV RX11 127 RX0 yX0_write u_s_X0_write3) := z_gr _ [8, 9, 10, 5, 11, 12, 13, 14, 5, 15, 16, 17, 18, 19, 20, 31, 32, 33, 34, 35, 36] rfl (by decide +kernel)
set_option maxHeartbeats 4000000 in
set_option maxRecDepth 100000 in
theorem s_X11_note3 (l : Launch) (dC : Nat → ClassId) (dI : Nat → Nat → Nat) (sz : Nat) (h0 : Nat) (p1 : Int32) (p2 : Int32) (p3 : Int32) (p4 : Int32) (h0_0 : Value) (h1 : Nat) (h0_2 : Value) (h0_3 : Value) (h0_4 : Value) (h0_5 : Value) (h0_6 : Value) (h0_7 : Value) (h0_8 : Value) (h0_9 : Value) (hs : Nat) (ha : Nat) (hb9 : Nat) (hc9 : Nat) (bn : Int32) (bl : Int32) (chs : ClassId) (fhs : Nat → Int32) (cha : ClassId) (fha : Nat → Int32) (chb9 : ClassId) (fhb9 : Nat → Int32) (chc9 : ClassId) (fhc9 : Nat → Int32) (hB_bn : ((0 : Int) ≤ (bn).toInt ∧ (bn).toInt ≤ (80 : Int))) (hB_bl : ((0 : Int) ≤ (bl).toInt ∧ (bl).toInt ≤ (12 : Int))) (hI_ha : ∀ j : Nat, ((0 : Int) ≤ (fha j).toInt ∧ (fha j).toInt ≤ (79 : Int))) (hR : ∀ j : Nat, z_rel (fhs j) (fha j) (fhb9 j)) : Met l yX11_note u_s_X11_note3 ({ frames := 2, cells := 0, slots := 0, locals := 44 }) (va_Pc [.ref h0, .int p1, .int p2, .int p3, .int p4] (z_C (dC, dI) vwCl [(h0, .inr (11, [h0_0, .ref h1, h0_2, h0_3, h0_4, h0_5, h0_6, h0_7, h0_8, h0_9])), (h1, .inr (0, [.ref hs, .ref ha, .ref hb9, .ref hc9, .int bn, .int bl])), (hs, .inl (chs, 80, .inl fhs)), (ha, .inl (cha, 80, .inl fha)), (hb9, .inl (chb9, 80, .inl fhb9)), (hc9, .inl (chc9, 80, .inl fhc9))] [(chs, .int), (cha, .int), (chb9, .int), (chc9, .int)] sz)) (va_Qi (fun (r : Int32) (_ : Unit) => r = v_noA bl bn p1 p2 p3 p4) (fun (_ : Unit) (t : State) => ∃ (n_h1_notes : Int32), ∃ (g_hs : Nat → Int32), ∃ (g_ha : Nat → Int32), ∃ (g_hb9 : Nat → Int32), ∃ (g_hc9 : Nat → Int32), ((0 : Int) ≤ (n_h1_notes).toInt ∧ (n_h1_notes).toInt ≤ (80 : Int)) ∧ (∀ j : Nat, ((0 : Int) ≤ (g_ha j).toInt ∧ (g_ha j).toInt ≤ (79 : Int))) ∧ (∀ j : Nat, z_rel (g_hs j) (g_ha j) (g_hb9 j)) ∧ (n_h1_notes = v_noN bl bn p1 p2 p3 p4) ∧ va_P (dC, dI) vwCl [(h0, .inr (11, [h0_0, .ref h1, h0_2, h0_3, h0_4, h0_5, h0_6, h0_7, h0_8, h0_9])), (h1, .inr (0, [.ref hs, .ref ha, .ref hb9, .ref hc9, .int n_h1_notes, .int bl])), (hs, .inl (chs, 80, .inl g_hs)), (ha, .inl (cha, 80, .inl g_ha)), (hb9, .inl (chb9, 80, .inl g_hb9)), (hc9, .inl (chc9, 80, .inl g_hc9))] t.heap ∧ va_K (dC, dI) vwCl [] t ∧ va_D (va_A [(h0, .inr (11, [h0_0, .ref h1, h0_2, h0_3, h0_4, h0_5, h0_6, h0_7, h0_8, h0_9])), (h1, .inr (0, [.ref hs, .ref ha, .ref hb9, .ref hc9, .int bn, .int bl])), (hs, .inl (chs, 80, .inl fhs)), (ha, .inl (cha, 80, .inl fha)), (hb9, .inl (chb9, 80, .inl fhb9)), (hc9, .inl (chc9, 80, .inl fhc9))] sz) [(h0, .inr (11, [h0_0, .ref h1, h0_2, h0_3, h0_4, h0_5, h0_6, h0_7, h0_8, h0_9])), (h1, .inr (0, [.ref hs, .ref ha, .ref hb9, .ref hc9, .int n_h1_notes, .int bl])), (hs, .inl (chs, 80, .inl g_hs)), (ha, .inl (cha, 80, .inl g_ha)), (hb9, .inl (chb9, 80, .inl g_hb9)), (hc9, .inl (chc9, 80, .inl g_hc9))]) (va_A [(h0, .inr (11, [h0_0, .ref h1, h0_2, h0_3, h0_4, h0_5, h0_6, h0_7, h0_8, h0_9])), (h1, .inr (0, [.ref hs, .ref ha, .ref hb9, .ref hc9, .int bn, .int bl])), (hs, .inl (chs, 80, .inl fhs)), (ha, .inl (cha, 80, .inl fha)), (hb9, .inl (chb9, 80, .inl fhb9)), (hc9, .inl (chc9, 80, .inl fhc9))] sz)) 0 0 (va_A [(h0, .inr (11, [h0_0, .ref h1, h0_2, h0_3, h0_4, h0_5, h0_6, h0_7, h0_8, h0_9])), (h1, .inr (0, [.ref hs, .ref ha, .ref hb9, .ref hc9, .int bn, .int bl])), (hs, .inl (chs, 80, .inl fhs)), (ha, .inl (cha, 80, .inl fha)), (hb9, .inl (chb9, 80, .inl fhb9)), (hc9, .inl (chc9, 80, .inl fhc9))] sz) := by
  refine Met.ofW (cc := cX11_note) (maxL := 5) (ret := (some .int)) (by decide) rfl ?_
  intro p e s m args below meth c s₁ B hml hv
  obtain ⟨rfl, hsz, hP, hK, hD0⟩ := hv
  have hx := B.exec
  have hb := B.bytes
  have hr := B.returns
  have hts := atoms_spec (ws := u_s_X11_note3) B.pre
  have hown : s.vm.findClass RX11 = some m.cls := findClass_of_methodNamed B.named
  have hlocks := B.notSynchronized
  subst hsz
  have hD := hD0.self (sz := s.heap.size)
  generalize hAe : va_A [(h0, .inr (11, [h0_0, .ref h1, h0_2, h0_3, h0_4, h0_5, h0_6, h0_7, h0_8, h0_9])), (h1, .inr (0, [.ref hs, .ref ha, .ref hb9, .ref hc9, .int bn, .int bl])), (hs, .inl (chs, 80, .inl fhs)), (ha, .inl (cha, 80, .inl fha)), (hb9, .inl (chb9, 80, .inl fhb9)), (hc9, .inl (chc9, 80, .inl fhc9))] s.heap.size = A at hD ⊢
  have hA : ∀ q : Nat, s.heap.size ≤ q → A q := fun q h => by rw [← hAe]; exact Or.inr h
  have hS : va_S A s.heap s.heap [] := va_S.rf
  have hP : va_P (dC, dI) vwCl [(h0, .inr (11, [h0_0, .ref h1, h0_2, h0_3, h0_4, h0_5, h0_6, h0_7, h0_8, h0_9])), (h1, .inr (0, [.ref hs, .ref ha, .ref hb9, .ref hc9, .int bn, .int bl])), (hs, .inl (chs, 80, .inl fhs)), (ha, .inl (cha, 80, .inl fha)), (hb9, .inl (chb9, 80, .inl fhb9)), (hc9, .inl (chc9, 80, .inl fhc9))] s.heap := hP
  have w__fieldLink_RX11_19_ShellHeap_book_LShellHeap_Book_ := hts (.fieldLink RX11 19 "ShellHeap" "book" "LShellHeap$Book;") (by decide +kernel)
  have hiX11 := show ∀ w ∈ u_ws RX11 TX11 10, w ∈ u_s_X11_note3 by decide +kernel
  have krr_p1 := z_rng p1
  have krr_p2 := z_rng p2
  have krr_p3 := z_rng p3
  have krr_p4 := z_rng p4
  have hl := lv_entry ([.ref h0, .int p1, .int p2, .int p3, .int p4]) (n := 5) (Nat.le_of_ble_eq_true rfl)
  rw [lg_entry_eq]
  generalize (lg_sl ([.ref h0, .int p1, .int p2, .int p3, .int p4]) ++ List.replicate (5 - (lg_sl ([.ref h0, .int p1, .int p2, .int p3, .int p4])).length) Slot.unset).toArray = ls at hl ⊢
  have hl : lv_has ls 5 [(0, .ref h0), (1, .int p1), (2, .int p2), (3, .int p3), (4, .int p4)] := hl
  refine lv_aload_n hx hb dX11_note_0 rfl (lv_at hl 0 rfl) ?_
  refine va_get (D := (dC, dI)) (ci := 11) (v := .ref h1) (C := RX11) (T := TX11) (N := 10) hx hb hts hiX11 hown hK hP 0 rfl rfl 1 (by decide) w__fieldLink_RX11_19_ShellHeap_book_LShellHeap_Book_ (fun _ h9 => h9) rfl dX11_note_1 ?_
  refine lv_iload_n hx hb dX11_note_4 rfl (lv_at hl 2 rfl) ?_
  have hPc := hP.sub (ws' := [(h1, .inr (0, [.ref hs, .ref ha, .ref hb9, .ref hc9, .int bn, .int bl]))]) [1] rfl
  have hDc := hD.sub (ws' := [(h1, .inr (0, [.ref hs, .ref ha, .ref hb9, .ref hc9, .int bn, .int bl]))]) [1] (by decide) rfl
  have hKc := hK.sub (tys' := []) [] rfl
  have hFc := va_free (ws := []) (wc := []) (z_D0 _) hS hA [] rfl
  refine va_calli (va_runV (As := [.int p2]) (rest := []) ⟨hx, hb, hml, hown, hts⟩ (s_X0_hasLayerA l dC dI s.heap.size h1 p2 (.ref hs) (.ref ha) (.ref hb9) (.ref hc9) (.int bn) bl (by first | omega | decide)) (cwV 1 hts gw_s_X11_note3_s_X0_hasLayerA_115 rfl rfl rfl (by decide +kernel) ⟨Nat.le_of_ble_eq_true rfl, Nat.le_of_ble_eq_true rfl⟩) ⟨z_blind, va_recv hKc hPc (ci := 0) (q0 := 0) rfl rfl, z_pre hPc hKc hDc⟩ rfl rfl hl.1 rfl (lv_room (Nat.le_of_ble_eq_true rfl)) dX11_note_5 ⟨Nat.le_of_ble_eq_true rfl, Nat.le_of_ble_eq_true rfl⟩) hS (fun q _ h => hFc q h) hFc (fun r_2 u t H_1 locs ht hvm hw_3 hB hz1 hk1 hS => ?_)
  have hP := z_pure hP hk1
  have hP : va_P (dC, dI) vwCl [(h0, .inr (11, [h0_0, .ref h1, h0_2, h0_3, h0_4, h0_5, h0_6, h0_7, h0_8, h0_9])), (h1, .inr (0, [.ref hs, .ref ha, .ref hb9, .ref hc9, .int bn, .int bl])), (hs, .inl (chs, 80, .inl fhs)), (ha, .inl (cha, 80, .inl fha)), (hb9, .inl (chb9, 80, .inl fhb9)), (hc9, .inl (chc9, 80, .inl fhc9))] H_1 := hP
  have hD : va_D A [(h0, .inr (11, [h0_0, .ref h1, h0_2, h0_3, h0_4, h0_5, h0_6, h0_7, h0_8, h0_9])), (h1, .inr (0, [.ref hs, .ref ha, .ref hb9, .ref hc9, .int bn, .int bl])), (hs, .inl (chs, 80, .inl fhs)), (ha, .inl (cha, 80, .inl fha)), (hb9, .inl (chb9, 80, .inl fhb9)), (hc9, .inl (chc9, 80, .inl fhc9))] := hD
  clear hPc hDc hKc
  rcases hw_3 with ⟨rfl, hw_3⟩ | ⟨rfl, hw_3⟩
  · have hw_3 : (0 ≤ p2.toInt ∧ p2.toInt < bl.toInt) := hw_3
    refine lv_if_ne (tgt := 13) hx hb dX11_note_8 (by decide) (fun _ => ?_) (fun c_4 => absurd c_4 (by decide))
    refine lv_iload_n hx hb dX11_note_13 rfl (lv_at hl 1 rfl) ?_
    refine lv_iconst (v := 3) hx hb dX11_note_14 (by decide) ?_
    refine lv_icmp_ne (tgt := 53) hx hb dX11_note_15 (by decide) (fun c_5 => ?_) (fun c_5 => ?_)
    · have k_6 : (p1).toInt ≠ (3 : Int) := z_ne c_5
      refine lv_iload_n hx hb dX11_note_53 rfl (lv_at hl 1 rfl) ?_
      refine lv_if_eq (tgt := 69) hx hb dX11_note_54 (by decide) (fun c_7 => ?_) (fun c_7 => ?_)
      · have k_8 : (p1).toInt = (0 : Int) := z_eq c_7
        refine lv_aload_n hx hb dX11_note_69 rfl (lv_at hl 0 rfl) ?_
        refine va_get (D := (dC, dI)) (ci := 11) (v := .ref h1) (C := RX11) (T := TX11) (N := 10) hx hb hts hiX11 hown hK hP 0 rfl rfl 1 (by decide) w__fieldLink_RX11_19_ShellHeap_book_LShellHeap_Book_ (fun _ h9 => h9) rfl dX11_note_70 ?_
        refine lv_iload_n hx hb dX11_note_73 rfl (lv_at hl 3 rfl) ?_
        have hPc := hP.sub (ws' := [(h1, .inr (0, [.ref hs, .ref ha, .ref hb9, .ref hc9, .int bn, .int bl]))]) [1] rfl
        have hDc := hD.sub (ws' := [(h1, .inr (0, [.ref hs, .ref ha, .ref hb9, .ref hc9, .int bn, .int bl]))]) [1] (by decide) rfl
        have hKc := hK.sub (tys' := []) [] rfl
        have hFc := va_free (ws := []) (wc := []) (z_D0 _) hS hA [] rfl
        refine va_calli (va_runV (As := [.int p3]) (rest := []) ⟨hx, hb, hml, hown, hts⟩ (s_X0_hasLayerA l dC dI H_1.size h1 p3 (.ref hs) (.ref ha) (.ref hb9) (.ref hc9) (.int bn) bl (by first | omega | decide)) (cwV 1 hts gw_s_X11_note3_s_X0_hasLayerA_115 rfl rfl rfl (by decide +kernel) ⟨Nat.le_of_ble_eq_true rfl, Nat.le_of_ble_eq_true rfl⟩) ⟨z_blind, va_recv hKc hPc (ci := 0) (q0 := 0) rfl rfl, z_pre hPc hKc hDc⟩ rfl rfl hl.1 rfl (lv_room (Nat.le_of_ble_eq_true rfl)) dX11_note_74 ⟨Nat.le_of_ble_eq_true rfl, Nat.le_of_ble_eq_true rfl⟩) hS (fun q _ h => hFc q h) hFc (fun r_10 u t H_9 locs ht hvm hw_11 hB hz1 hk1 hS => ?_)
        have hP := z_pure hP hk1
        have hP : va_P (dC, dI) vwCl [(h0, .inr (11, [h0_0, .ref h1, h0_2, h0_3, h0_4, h0_5, h0_6, h0_7, h0_8, h0_9])), (h1, .inr (0, [.ref hs, .ref ha, .ref hb9, .ref hc9, .int bn, .int bl])), (hs, .inl (chs, 80, .inl fhs)), (ha, .inl (cha, 80, .inl fha)), (hb9, .inl (chb9, 80, .inl fhb9)), (hc9, .inl (chc9, 80, .inl fhc9))] H_9 := hP
        have hD : va_D A [(h0, .inr (11, [h0_0, .ref h1, h0_2, h0_3, h0_4, h0_5, h0_6, h0_7, h0_8, h0_9])), (h1, .inr (0, [.ref hs, .ref ha, .ref hb9, .ref hc9, .int bn, .int bl])), (hs, .inl (chs, 80, .inl fhs)), (ha, .inl (cha, 80, .inl fha)), (hb9, .inl (chb9, 80, .inl fhb9)), (hc9, .inl (chc9, 80, .inl fhc9))] := hD
        clear hPc hDc hKc
        rcases hw_11 with ⟨rfl, hw_11⟩ | ⟨rfl, hw_11⟩
        · have hw_11 : (0 ≤ p3.toInt ∧ p3.toInt < bl.toInt) := hw_11
          refine lv_if_eq (tgt := 99) hx hb dX11_note_77 (by decide) (fun c_12 => absurd c_12 (by decide)) (fun _ => ?_)
          refine lv_iload_n hx hb dX11_note_80 rfl (lv_at hl 2 rfl) ?_
          refine lv_iload_n hx hb dX11_note_81 rfl (lv_at hl 3 rfl) ?_
          refine lv_icmp_eq (tgt := 99) hx hb dX11_note_82 (by decide) (fun c_13 => ?_) (fun c_13 => ?_)
          · have k_14 : (p2).toInt = (p3).toInt := z_eq c_13
            refine lv_iconst (v := (-1)) hx hb dX11_note_99 (by decide) ?_
            have hP9 := hP.sub (ws' := [(h0, .inr (11, [h0_0, .ref h1, h0_2, h0_3, h0_4, h0_5, h0_6, h0_7, h0_8, h0_9])), (h1, .inr (0, [.ref hs, .ref ha, .ref hb9, .ref hc9, .int bn, .int bl])), (hs, .inl (chs, 80, .inl fhs)), (ha, .inl (cha, 80, .inl fha)), (hb9, .inl (chb9, 80, .inl fhb9)), (hc9, .inl (chc9, 80, .inl fhc9))]) [0, 1, 2, 3, 4, 5] rfl
            have hD9 := hD.sub (ws' := [(h0, .inr (11, [h0_0, .ref h1, h0_2, h0_3, h0_4, h0_5, h0_6, h0_7, h0_8, h0_9])), (h1, .inr (0, [.ref hs, .ref ha, .ref hb9, .ref hc9, .int bn, .int bl])), (hs, .inl (chs, 80, .inl fhs)), (ha, .inl (cha, 80, .inl fha)), (hb9, .inl (chb9, 80, .inl fhb9)), (hc9, .inl (chc9, 80, .inl fhc9))]) [0, 1, 2, 3, 4, 5] (by decide) rfl
            have hK9 := hK.sub (tys' := []) [] rfl
            refine W.widen (k := 0) (n := 0) (Nat.le_of_ble_eq_true rfl) (Nat.le_of_ble_eq_true rfl) ?_
            exact W.iret (v := (-1)) hx hb hr (fun t ht hW => ⟨⟨(-1), (), rfl, (show (-1) = v_noA bl bn p1 p2 p3 p4 from (v_noA_n (by unfold v_nok; omega)).symm), ⟨bn, fhs, fha, fhb9, fhc9, (by first | omega | decide), hI_ha, hR, (show bn = v_noN bl bn p1 p2 p3 p4 from (v_noN_n (by unfold v_nok; omega)).symm), by rw [ht]; exact hP9, va_K.moved hW.alike hK9, hD9⟩⟩, hS.F ht⟩) hS.2.2 dX11_note_100
          · have k_15 : (p2).toInt ≠ (p3).toInt := z_ne c_13
            refine lv_aload_n hx hb dX11_note_85 rfl (lv_at hl 0 rfl) ?_
            refine va_get (D := (dC, dI)) (ci := 11) (v := .ref h1) (C := RX11) (T := TX11) (N := 10) hx hb hts hiX11 hown hK hP 0 rfl rfl 1 (by decide) w__fieldLink_RX11_19_ShellHeap_book_LShellHeap_Book_ (fun _ h9 => h9) rfl dX11_note_86 ?_
            refine lv_iload_n hx hb dX11_note_89 rfl (lv_at hl 1 rfl) ?_
            refine lv_iload_n hx hb dX11_note_90 rfl (lv_at hl 2 rfl) ?_
            refine lv_iload_n hx hb dX11_note_91 rfl (lv_at hl 3 rfl) ?_
            refine lv_iconst (v := 0) hx hb dX11_note_92 (by decide) ?_
            have hPc := hP.sub (ws' := [(h1, .inr (0, [.ref hs, .ref ha, .ref hb9, .ref hc9, .int bn, .int bl])), (hs, .inl (chs, 80, .inl fhs)), (ha, .inl (cha, 80, .inl fha)), (hb9, .inl (chb9, 80, .inl fhb9)), (hc9, .inl (chc9, 80, .inl fhc9))]) [1, 2, 3, 4, 5] rfl
            have hDc := hD.sub (ws' := [(h1, .inr (0, [.ref hs, .ref ha, .ref hb9, .ref hc9, .int bn, .int bl])), (hs, .inl (chs, 80, .inl fhs)), (ha, .inl (cha, 80, .inl fha)), (hb9, .inl (chb9, 80, .inl fhb9)), (hc9, .inl (chc9, 80, .inl fhc9))]) [1, 2, 3, 4, 5] (by decide) rfl
            have hKc := hK.sub (tys' := [(chs, .int), (cha, .int), (chb9, .int), (chc9, .int)]) [0, 1, 2, 3] rfl
            have hFc := va_free (wc := [(h1, .inr (0, [.ref hs, .ref ha, .ref hb9, .ref hc9, .int bn, .int bl])), (hs, .inl (chs, 80, .inl fhs)), (ha, .inl (cha, 80, .inl fha)), (hb9, .inl (chb9, 80, .inl fhb9)), (hc9, .inl (chc9, 80, .inl fhc9))]) hD hS hA [1, 2, 3, 4, 5] rfl
            refine va_calli (va_runV (As := [.int p1, .int p2, .int p3, .int 0]) (rest := []) ⟨hx, hb, hml, hown, hts⟩ (s_X0_write3 l dC dI H_9.size h1 p1 p2 p3 0 hs ha hb9 hc9 bn (.int bl) chs fhs cha fha chb9 fhb9 chc9 fhc9 (by first | omega | decide) (by first | omega | decide) hI_ha hR (show ((0 : Int) ≤ (p2).toInt ∧ (p2).toInt ≤ (79 : Int)) ∧ ((p1).toInt ≠ (5 : Int) → (p2).toInt ≤ (11 : Int)) ∧ ((p1).toInt ≤ (2 : Int) → (0 : Int) ≤ (p3).toInt ∧ (p3).toInt ≤ (11 : Int)) by omega)) (cwV 4 hts gw_s_X11_note3_s_X0_write3_127 rfl rfl rfl (by decide +kernel) ⟨Nat.le_of_ble_eq_true rfl, Nat.le_of_ble_eq_true rfl⟩) ⟨z_blind, va_recv hKc hPc (ci := 0) (q0 := 0) rfl rfl, z_pre hPc hKc hDc⟩ rfl rfl hl.1 rfl (lv_room (Nat.le_of_ble_eq_true rfl)) dX11_note_93 ⟨Nat.le_of_ble_eq_true rfl, Nat.le_of_ble_eq_true rfl⟩) hS (fun q _ h => hFc q h) hFc (fun r_17 u t H_16 locs ht hvm hw_18 hB hz1 hk1 hS => ?_)
            obtain ⟨n_h0_notes_19, g_hs_20, g_ha_21, g_hb9_22, g_hc9_23, hp_24, hp_25, hp_26, hp_27, hP1, hK1, hD1⟩ := hB
            rw [ht] at hP1
            have hK1 := va_K.moved hvm.symm hK1
            obtain ⟨hP, hD⟩ := va_join (wr := [(h0, .inr (11, [h0_0, .ref h1, h0_2, h0_3, h0_4, h0_5, h0_6, h0_7, h0_8, h0_9]))]) (w1 := [(h1, .inr (0, [.ref hs, .ref ha, .ref hb9, .ref hc9, .int n_h0_notes_19, .int bl])), (hs, .inl (chs, 80, .inl g_hs_20)), (ha, .inl (cha, 80, .inl g_ha_21)), (hb9, .inl (chb9, 80, .inl g_hb9_22)), (hc9, .inl (chc9, 80, .inl g_hc9_23))]) hP hD [1, 2, 3, 4, 5] [0] rfl rfl (by decide) (by decide) hk1 hFc hP1 hD1
            have hR := hp_26
            have hp_27 : n_h0_notes_19 = v_wrN bn := hp_27
            have hP : va_P (dC, dI) vwCl [(h0, .inr (11, [h0_0, .ref h1, h0_2, h0_3, h0_4, h0_5, h0_6, h0_7, h0_8, h0_9])), (h1, .inr (0, [.ref hs, .ref ha, .ref hb9, .ref hc9, .int n_h0_notes_19, .int bl])), (hs, .inl (chs, 80, .inl g_hs_20)), (ha, .inl (cha, 80, .inl g_ha_21)), (hb9, .inl (chb9, 80, .inl g_hb9_22)), (hc9, .inl (chc9, 80, .inl g_hc9_23))] H_16 := hP
            have hD : va_D A [(h0, .inr (11, [h0_0, .ref h1, h0_2, h0_3, h0_4, h0_5, h0_6, h0_7, h0_8, h0_9])), (h1, .inr (0, [.ref hs, .ref ha, .ref hb9, .ref hc9, .int n_h0_notes_19, .int bl])), (hs, .inl (chs, 80, .inl g_hs_20)), (ha, .inl (cha, 80, .inl g_ha_21)), (hb9, .inl (chb9, 80, .inl g_hb9_22)), (hc9, .inl (chc9, 80, .inl g_hc9_23))] := hD
            clear hPc hDc hKc
            refine lv_goto (tgt := 100) hx hb dX11_note_96 (by decide) ?_
            have hP9 := hP.sub (ws' := [(h0, .inr (11, [h0_0, .ref h1, h0_2, h0_3, h0_4, h0_5, h0_6, h0_7, h0_8, h0_9])), (h1, .inr (0, [.ref hs, .ref ha, .ref hb9, .ref hc9, .int n_h0_notes_19, .int bl])), (hs, .inl (chs, 80, .inl g_hs_20)), (ha, .inl (cha, 80, .inl g_ha_21)), (hb9, .inl (chb9, 80, .inl g_hb9_22)), (hc9, .inl (chc9, 80, .inl g_hc9_23))]) [0, 1, 2, 3, 4, 5] rfl
            have hD9 := hD.sub (ws' := [(h0, .inr (11, [h0_0, .ref h1, h0_2, h0_3, h0_4, h0_5, h0_6, h0_7, h0_8, h0_9])), (h1, .inr (0, [.ref hs, .ref ha, .ref hb9, .ref hc9, .int n_h0_notes_19, .int bl])), (hs, .inl (chs, 80, .inl g_hs_20)), (ha, .inl (cha, 80, .inl g_ha_21)), (hb9, .inl (chb9, 80, .inl g_hb9_22)), (hc9, .inl (chc9, 80, .inl g_hc9_23))]) [0, 1, 2, 3, 4, 5] (by decide) rfl
            have hK9 := hK.sub (tys' := []) [] rfl
            refine W.widen (k := 0) (n := 0) (Nat.le_of_ble_eq_true rfl) (Nat.le_of_ble_eq_true rfl) ?_
            exact W.iret (v := r_17) hx hb hr (fun t ht hW => ⟨⟨r_17, (), rfl, (show r_17 = v_noA bl bn p1 p2 p3 p4 from v_noA_w hw_18 (by unfold v_nok; omega)), ⟨n_h0_notes_19, g_hs_20, g_ha_21, g_hb9_22, g_hc9_23, (by first | omega | decide), hp_25, hR, (show n_h0_notes_19 = v_noN bl bn p1 p2 p3 p4 from v_noN_w hp_27 (by unfold v_nok; omega)), by rw [ht]; exact hP9, va_K.moved hW.alike hK9, hD9⟩⟩, hS.F ht⟩) hS.2.2 dX11_note_100
        · have hw_11 : ¬ (0 ≤ p3.toInt ∧ p3.toInt < bl.toInt) := hw_11
          refine lv_if_eq (tgt := 99) hx hb dX11_note_77 (by decide) (fun _ => ?_) (fun c_28 => absurd (by decide) c_28)
          refine lv_iconst (v := (-1)) hx hb dX11_note_99 (by decide) ?_
          have hP9 := hP.sub (ws' := [(h0, .inr (11, [h0_0, .ref h1, h0_2, h0_3, h0_4, h0_5, h0_6, h0_7, h0_8, h0_9])), (h1, .inr (0, [.ref hs, .ref ha, .ref hb9, .ref hc9, .int bn, .int bl])), (hs, .inl (chs, 80, .inl fhs)), (ha, .inl (cha, 80, .inl fha)), (hb9, .inl (chb9, 80, .inl fhb9)), (hc9, .inl (chc9, 80, .inl fhc9))]) [0, 1, 2, 3, 4, 5] rfl
          have hD9 := hD.sub (ws' := [(h0, .inr (11, [h0_0, .ref h1, h0_2, h0_3, h0_4, h0_5, h0_6, h0_7, h0_8, h0_9])), (h1, .inr (0, [.ref hs, .ref ha, .ref hb9, .ref hc9, .int bn, .int bl])), (hs, .inl (chs, 80, .inl fhs)), (ha, .inl (cha, 80, .inl fha)), (hb9, .inl (chb9, 80, .inl fhb9)), (hc9, .inl (chc9, 80, .inl fhc9))]) [0, 1, 2, 3, 4, 5] (by decide) rfl
          have hK9 := hK.sub (tys' := []) [] rfl
          refine W.widen (k := 0) (n := 0) (Nat.le_of_ble_eq_true rfl) (Nat.le_of_ble_eq_true rfl) ?_
          exact W.iret (v := (-1)) hx hb hr (fun t ht hW => ⟨⟨(-1), (), rfl, (show (-1) = v_noA bl bn p1 p2 p3 p4 from (v_noA_n (by unfold v_nok; omega)).symm), ⟨bn, fhs, fha, fhb9, fhc9, (by first | omega | decide), hI_ha, hR, (show bn = v_noN bl bn p1 p2 p3 p4 from (v_noN_n (by unfold v_nok; omega)).symm), by rw [ht]; exact hP9, va_K.moved hW.alike hK9, hD9⟩⟩, hS.F ht⟩) hS.2.2 dX11_note_100
      · have k_29 : (p1).toInt ≠ (0 : Int) := z_ne c_7
        refine lv_iload_n hx hb dX11_note_57 rfl (lv_at hl 1 rfl) ?_
        refine lv_iconst (v := 1) hx hb dX11_note_58 (by decide) ?_
        refine lv_icmp_eq (tgt := 69) hx hb dX11_note_59 (by decide) (fun c_30 => ?_) (fun c_30 => ?_)
        · have k_31 : (p1).toInt = (1 : Int) := z_eq c_30
          refine lv_aload_n hx hb dX11_note_69 rfl (lv_at hl 0 rfl) ?_
          refine va_get (D := (dC, dI)) (ci := 11) (v := .ref h1) (C := RX11) (T := TX11) (N := 10) hx hb hts hiX11 hown hK hP 0 rfl rfl 1 (by decide) w__fieldLink_RX11_19_ShellHeap_book_LShellHeap_Book_ (fun _ h9 => h9) rfl dX11_note_70 ?_
          refine lv_iload_n hx hb dX11_note_73 rfl (lv_at hl 3 rfl) ?_
          have hPc := hP.sub (ws' := [(h1, .inr (0, [.ref hs, .ref ha, .ref hb9, .ref hc9, .int bn, .int bl]))]) [1] rfl
          have hDc := hD.sub (ws' := [(h1, .inr (0, [.ref hs, .ref ha, .ref hb9, .ref hc9, .int bn, .int bl]))]) [1] (by decide) rfl
          have hKc := hK.sub (tys' := []) [] rfl
          have hFc := va_free (ws := []) (wc := []) (z_D0 _) hS hA [] rfl
          refine va_calli (va_runV (As := [.int p3]) (rest := []) ⟨hx, hb, hml, hown, hts⟩ (s_X0_hasLayerA l dC dI H_1.size h1 p3 (.ref hs) (.ref ha) (.ref hb9) (.ref hc9) (.int bn) bl (by first | omega | decide)) (cwV 1 hts gw_s_X11_note3_s_X0_hasLayerA_115 rfl rfl rfl (by decide +kernel) ⟨Nat.le_of_ble_eq_true rfl, Nat.le_of_ble_eq_true rfl⟩) ⟨z_blind, va_recv hKc hPc (ci := 0) (q0 := 0) rfl rfl, z_pre hPc hKc hDc⟩ rfl rfl hl.1 rfl (lv_room (Nat.le_of_ble_eq_true rfl)) dX11_note_74 ⟨Nat.le_of_ble_eq_true rfl, Nat.le_of_ble_eq_true rfl⟩) hS (fun q _ h => hFc q h) hFc (fun r_33 u t H_32 locs ht hvm hw_34 hB hz1 hk1 hS => ?_)
          have hP := z_pure hP hk1
          have hP : va_P (dC, dI) vwCl [(h0, .inr (11, [h0_0, .ref h1, h0_2, h0_3, h0_4, h0_5, h0_6, h0_7, h0_8, h0_9])), (h1, .inr (0, [.ref hs, .ref ha, .ref hb9, .ref hc9, .int bn, .int bl])), (hs, .inl (chs, 80, .inl fhs)), (ha, .inl (cha, 80, .inl fha)), (hb9, .inl (chb9, 80, .inl fhb9)), (hc9, .inl (chc9, 80, .inl fhc9))] H_32 := hP
          have hD : va_D A [(h0, .inr (11, [h0_0, .ref h1, h0_2, h0_3, h0_4, h0_5, h0_6, h0_7, h0_8, h0_9])), (h1, .inr (0, [.ref hs, .ref ha, .ref hb9, .ref hc9, .int bn, .int bl])), (hs, .inl (chs, 80, .inl fhs)), (ha, .inl (cha, 80, .inl fha)), (hb9, .inl (chb9, 80, .inl fhb9)), (hc9, .inl (chc9, 80, .inl fhc9))] := hD
          clear hPc hDc hKc
          rcases hw_34 with ⟨rfl, hw_34⟩ | ⟨rfl, hw_34⟩
          · have hw_34 : (0 ≤ p3.toInt ∧ p3.toInt < bl.toInt) := hw_34
            refine lv_if_eq (tgt := 99) hx hb dX11_note_77 (by decide) (fun c_35 => absurd c_35 (by decide)) (fun _ => ?_)
            refine lv_iload_n hx hb dX11_note_80 rfl (lv_at hl 2 rfl) ?_
            refine lv_iload_n hx hb dX11_note_81 rfl (lv_at hl 3 rfl) ?_
            refine lv_icmp_eq (tgt := 99) hx hb dX11_note_82 (by decide) (fun c_36 => ?_) (fun c_36 => ?_)
            · have k_37 : (p2).toInt = (p3).toInt := z_eq c_36
              refine lv_iconst (v := (-1)) hx hb dX11_note_99 (by decide) ?_
              have hP9 := hP.sub (ws' := [(h0, .inr (11, [h0_0, .ref h1, h0_2, h0_3, h0_4, h0_5, h0_6, h0_7, h0_8, h0_9])), (h1, .inr (0, [.ref hs, .ref ha, .ref hb9, .ref hc9, .int bn, .int bl])), (hs, .inl (chs, 80, .inl fhs)), (ha, .inl (cha, 80, .inl fha)), (hb9, .inl (chb9, 80, .inl fhb9)), (hc9, .inl (chc9, 80, .inl fhc9))]) [0, 1, 2, 3, 4, 5] rfl
              have hD9 := hD.sub (ws' := [(h0, .inr (11, [h0_0, .ref h1, h0_2, h0_3, h0_4, h0_5, h0_6, h0_7, h0_8, h0_9])), (h1, .inr (0, [.ref hs, .ref ha, .ref hb9, .ref hc9, .int bn, .int bl])), (hs, .inl (chs, 80, .inl fhs)), (ha, .inl (cha, 80, .inl fha)), (hb9, .inl (chb9, 80, .inl fhb9)), (hc9, .inl (chc9, 80, .inl fhc9))]) [0, 1, 2, 3, 4, 5] (by decide) rfl
              have hK9 := hK.sub (tys' := []) [] rfl
              refine W.widen (k := 0) (n := 0) (Nat.le_of_ble_eq_true rfl) (Nat.le_of_ble_eq_true rfl) ?_
              exact W.iret (v := (-1)) hx hb hr (fun t ht hW => ⟨⟨(-1), (), rfl, (show (-1) = v_noA bl bn p1 p2 p3 p4 from (v_noA_n (by unfold v_nok; omega)).symm), ⟨bn, fhs, fha, fhb9, fhc9, (by first | omega | decide), hI_ha, hR, (show bn = v_noN bl bn p1 p2 p3 p4 from (v_noN_n (by unfold v_nok; omega)).symm), by rw [ht]; exact hP9, va_K.moved hW.alike hK9, hD9⟩⟩, hS.F ht⟩) hS.2.2 dX11_note_100
            · have k_38 : (p2).toInt ≠ (p3).toInt := z_ne c_36
              refine lv_aload_n hx hb dX11_note_85 rfl (lv_at hl 0 rfl) ?_
              refine va_get (D := (dC, dI)) (ci := 11) (v := .ref h1) (C := RX11) (T := TX11) (N := 10) hx hb hts hiX11 hown hK hP 0 rfl rfl 1 (by decide) w__fieldLink_RX11_19_ShellHeap_book_LShellHeap_Book_ (fun _ h9 => h9) rfl dX11_note_86 ?_
              refine lv_iload_n hx hb dX11_note_89 rfl (lv_at hl 1 rfl) ?_
              refine lv_iload_n hx hb dX11_note_90 rfl (lv_at hl 2 rfl) ?_
              refine lv_iload_n hx hb dX11_note_91 rfl (lv_at hl 3 rfl) ?_
              refine lv_iconst (v := 0) hx hb dX11_note_92 (by decide) ?_
              have hPc := hP.sub (ws' := [(h1, .inr (0, [.ref hs, .ref ha, .ref hb9, .ref hc9, .int bn, .int bl])), (hs, .inl (chs, 80, .inl fhs)), (ha, .inl (cha, 80, .inl fha)), (hb9, .inl (chb9, 80, .inl fhb9)), (hc9, .inl (chc9, 80, .inl fhc9))]) [1, 2, 3, 4, 5] rfl
              have hDc := hD.sub (ws' := [(h1, .inr (0, [.ref hs, .ref ha, .ref hb9, .ref hc9, .int bn, .int bl])), (hs, .inl (chs, 80, .inl fhs)), (ha, .inl (cha, 80, .inl fha)), (hb9, .inl (chb9, 80, .inl fhb9)), (hc9, .inl (chc9, 80, .inl fhc9))]) [1, 2, 3, 4, 5] (by decide) rfl
              have hKc := hK.sub (tys' := [(chs, .int), (cha, .int), (chb9, .int), (chc9, .int)]) [0, 1, 2, 3] rfl
              have hFc := va_free (wc := [(h1, .inr (0, [.ref hs, .ref ha, .ref hb9, .ref hc9, .int bn, .int bl])), (hs, .inl (chs, 80, .inl fhs)), (ha, .inl (cha, 80, .inl fha)), (hb9, .inl (chb9, 80, .inl fhb9)), (hc9, .inl (chc9, 80, .inl fhc9))]) hD hS hA [1, 2, 3, 4, 5] rfl
              refine va_calli (va_runV (As := [.int p1, .int p2, .int p3, .int 0]) (rest := []) ⟨hx, hb, hml, hown, hts⟩ (s_X0_write3 l dC dI H_32.size h1 p1 p2 p3 0 hs ha hb9 hc9 bn (.int bl) chs fhs cha fha chb9 fhb9 chc9 fhc9 (by first | omega | decide) (by first | omega | decide) hI_ha hR (show ((0 : Int) ≤ (p2).toInt ∧ (p2).toInt ≤ (79 : Int)) ∧ ((p1).toInt ≠ (5 : Int) → (p2).toInt ≤ (11 : Int)) ∧ ((p1).toInt ≤ (2 : Int) → (0 : Int) ≤ (p3).toInt ∧ (p3).toInt ≤ (11 : Int)) by omega)) (cwV 4 hts gw_s_X11_note3_s_X0_write3_127 rfl rfl rfl (by decide +kernel) ⟨Nat.le_of_ble_eq_true rfl, Nat.le_of_ble_eq_true rfl⟩) ⟨z_blind, va_recv hKc hPc (ci := 0) (q0 := 0) rfl rfl, z_pre hPc hKc hDc⟩ rfl rfl hl.1 rfl (lv_room (Nat.le_of_ble_eq_true rfl)) dX11_note_93 ⟨Nat.le_of_ble_eq_true rfl, Nat.le_of_ble_eq_true rfl⟩) hS (fun q _ h => hFc q h) hFc (fun r_40 u t H_39 locs ht hvm hw_41 hB hz1 hk1 hS => ?_)
              obtain ⟨n_h0_notes_42, g_hs_43, g_ha_44, g_hb9_45, g_hc9_46, hp_47, hp_48, hp_49, hp_50, hP1, hK1, hD1⟩ := hB
              rw [ht] at hP1
              have hK1 := va_K.moved hvm.symm hK1
              obtain ⟨hP, hD⟩ := va_join (wr := [(h0, .inr (11, [h0_0, .ref h1, h0_2, h0_3, h0_4, h0_5, h0_6, h0_7, h0_8, h0_9]))]) (w1 := [(h1, .inr (0, [.ref hs, .ref ha, .ref hb9, .ref hc9, .int n_h0_notes_42, .int bl])), (hs, .inl (chs, 80, .inl g_hs_43)), (ha, .inl (cha, 80, .inl g_ha_44)), (hb9, .inl (chb9, 80, .inl g_hb9_45)), (hc9, .inl (chc9, 80, .inl g_hc9_46))]) hP hD [1, 2, 3, 4, 5] [0] rfl rfl (by decide) (by decide) hk1 hFc hP1 hD1
              have hR := hp_49
              have hp_50 : n_h0_notes_42 = v_wrN bn := hp_50
              have hP : va_P (dC, dI) vwCl [(h0, .inr (11, [h0_0, .ref h1, h0_2, h0_3, h0_4, h0_5, h0_6, h0_7, h0_8, h0_9])), (h1, .inr (0, [.ref hs, .ref ha, .ref hb9, .ref hc9, .int n_h0_notes_42, .int bl])), (hs, .inl (chs, 80, .inl g_hs_43)), (ha, .inl (cha, 80, .inl g_ha_44)), (hb9, .inl (chb9, 80, .inl g_hb9_45)), (hc9, .inl (chc9, 80, .inl g_hc9_46))] H_39 := hP
              have hD : va_D A [(h0, .inr (11, [h0_0, .ref h1, h0_2, h0_3, h0_4, h0_5, h0_6, h0_7, h0_8, h0_9])), (h1, .inr (0, [.ref hs, .ref ha, .ref hb9, .ref hc9, .int n_h0_notes_42, .int bl])), (hs, .inl (chs, 80, .inl g_hs_43)), (ha, .inl (cha, 80, .inl g_ha_44)), (hb9, .inl (chb9, 80, .inl g_hb9_45)), (hc9, .inl (chc9, 80, .inl g_hc9_46))] := hD
              clear hPc hDc hKc
              refine lv_goto (tgt := 100) hx hb dX11_note_96 (by decide) ?_
              have hP9 := hP.sub (ws' := [(h0, .inr (11, [h0_0, .ref h1, h0_2, h0_3, h0_4, h0_5, h0_6, h0_7, h0_8, h0_9])), (h1, .inr (0, [.ref hs, .ref ha, .ref hb9, .ref hc9, .int n_h0_notes_42, .int bl])), (hs, .inl (chs, 80, .inl g_hs_43)), (ha, .inl (cha, 80, .inl g_ha_44)), (hb9, .inl (chb9, 80, .inl g_hb9_45)), (hc9, .inl (chc9, 80, .inl g_hc9_46))]) [0, 1, 2, 3, 4, 5] rfl
              have hD9 := hD.sub (ws' := [(h0, .inr (11, [h0_0, .ref h1, h0_2, h0_3, h0_4, h0_5, h0_6, h0_7, h0_8, h0_9])), (h1, .inr (0, [.ref hs, .ref ha, .ref hb9, .ref hc9, .int n_h0_notes_42, .int bl])), (hs, .inl (chs, 80, .inl g_hs_43)), (ha, .inl (cha, 80, .inl g_ha_44)), (hb9, .inl (chb9, 80, .inl g_hb9_45)), (hc9, .inl (chc9, 80, .inl g_hc9_46))]) [0, 1, 2, 3, 4, 5] (by decide) rfl
              have hK9 := hK.sub (tys' := []) [] rfl
              refine W.widen (k := 0) (n := 0) (Nat.le_of_ble_eq_true rfl) (Nat.le_of_ble_eq_true rfl) ?_
              exact W.iret (v := r_40) hx hb hr (fun t ht hW => ⟨⟨r_40, (), rfl, (show r_40 = v_noA bl bn p1 p2 p3 p4 from v_noA_w hw_41 (by unfold v_nok; omega)), ⟨n_h0_notes_42, g_hs_43, g_ha_44, g_hb9_45, g_hc9_46, (by first | omega | decide), hp_48, hR, (show n_h0_notes_42 = v_noN bl bn p1 p2 p3 p4 from v_noN_w hp_50 (by unfold v_nok; omega)), by rw [ht]; exact hP9, va_K.moved hW.alike hK9, hD9⟩⟩, hS.F ht⟩) hS.2.2 dX11_note_100
          · have hw_34 : ¬ (0 ≤ p3.toInt ∧ p3.toInt < bl.toInt) := hw_34
            refine lv_if_eq (tgt := 99) hx hb dX11_note_77 (by decide) (fun _ => ?_) (fun c_51 => absurd (by decide) c_51)
            refine lv_iconst (v := (-1)) hx hb dX11_note_99 (by decide) ?_
            have hP9 := hP.sub (ws' := [(h0, .inr (11, [h0_0, .ref h1, h0_2, h0_3, h0_4, h0_5, h0_6, h0_7, h0_8, h0_9])), (h1, .inr (0, [.ref hs, .ref ha, .ref hb9, .ref hc9, .int bn, .int bl])), (hs, .inl (chs, 80, .inl fhs)), (ha, .inl (cha, 80, .inl fha)), (hb9, .inl (chb9, 80, .inl fhb9)), (hc9, .inl (chc9, 80, .inl fhc9))]) [0, 1, 2, 3, 4, 5] rfl
            have hD9 := hD.sub (ws' := [(h0, .inr (11, [h0_0, .ref h1, h0_2, h0_3, h0_4, h0_5, h0_6, h0_7, h0_8, h0_9])), (h1, .inr (0, [.ref hs, .ref ha, .ref hb9, .ref hc9, .int bn, .int bl])), (hs, .inl (chs, 80, .inl fhs)), (ha, .inl (cha, 80, .inl fha)), (hb9, .inl (chb9, 80, .inl fhb9)), (hc9, .inl (chc9, 80, .inl fhc9))]) [0, 1, 2, 3, 4, 5] (by decide) rfl
            have hK9 := hK.sub (tys' := []) [] rfl
            refine W.widen (k := 0) (n := 0) (Nat.le_of_ble_eq_true rfl) (Nat.le_of_ble_eq_true rfl) ?_
            exact W.iret (v := (-1)) hx hb hr (fun t ht hW => ⟨⟨(-1), (), rfl, (show (-1) = v_noA bl bn p1 p2 p3 p4 from (v_noA_n (by unfold v_nok; omega)).symm), ⟨bn, fhs, fha, fhb9, fhc9, (by first | omega | decide), hI_ha, hR, (show bn = v_noN bl bn p1 p2 p3 p4 from (v_noN_n (by unfold v_nok; omega)).symm), by rw [ht]; exact hP9, va_K.moved hW.alike hK9, hD9⟩⟩, hS.F ht⟩) hS.2.2 dX11_note_100
        · have k_52 : (p1).toInt ≠ (1 : Int) := z_ne c_30
          refine lv_iload_n hx hb dX11_note_62 rfl (lv_at hl 1 rfl) ?_
          refine lv_iconst (v := 2) hx hb dX11_note_63 (by decide) ?_
          refine lv_icmp_eq (tgt := 69) hx hb dX11_note_64 (by decide) (fun c_53 => ?_) (fun c_53 => ?_)
          · have k_54 : (p1).toInt = (2 : Int) := z_eq c_53
            refine lv_aload_n hx hb dX11_note_69 rfl (lv_at hl 0 rfl) ?_
            refine va_get (D := (dC, dI)) (ci := 11) (v := .ref h1) (C := RX11) (T := TX11) (N := 10) hx hb hts hiX11 hown hK hP 0 rfl rfl 1 (by decide) w__fieldLink_RX11_19_ShellHeap_book_LShellHeap_Book_ (fun _ h9 => h9) rfl dX11_note_70 ?_
            refine lv_iload_n hx hb dX11_note_73 rfl (lv_at hl 3 rfl) ?_
            have hPc := hP.sub (ws' := [(h1, .inr (0, [.ref hs, .ref ha, .ref hb9, .ref hc9, .int bn, .int bl]))]) [1] rfl
            have hDc := hD.sub (ws' := [(h1, .inr (0, [.ref hs, .ref ha, .ref hb9, .ref hc9, .int bn, .int bl]))]) [1] (by decide) rfl
            have hKc := hK.sub (tys' := []) [] rfl
            have hFc := va_free (ws := []) (wc := []) (z_D0 _) hS hA [] rfl
            refine va_calli (va_runV (As := [.int p3]) (rest := []) ⟨hx, hb, hml, hown, hts⟩ (s_X0_hasLayerA l dC dI H_1.size h1 p3 (.ref hs) (.ref ha) (.ref hb9) (.ref hc9) (.int bn) bl (by first | omega | decide)) (cwV 1 hts gw_s_X11_note3_s_X0_hasLayerA_115 rfl rfl rfl (by decide +kernel) ⟨Nat.le_of_ble_eq_true rfl, Nat.le_of_ble_eq_true rfl⟩) ⟨z_blind, va_recv hKc hPc (ci := 0) (q0 := 0) rfl rfl, z_pre hPc hKc hDc⟩ rfl rfl hl.1 rfl (lv_room (Nat.le_of_ble_eq_true rfl)) dX11_note_74 ⟨Nat.le_of_ble_eq_true rfl, Nat.le_of_ble_eq_true rfl⟩) hS (fun q _ h => hFc q h) hFc (fun r_56 u t H_55 locs ht hvm hw_57 hB hz1 hk1 hS => ?_)
            have hP := z_pure hP hk1
            have hP : va_P (dC, dI) vwCl [(h0, .inr (11, [h0_0, .ref h1, h0_2, h0_3, h0_4, h0_5, h0_6, h0_7, h0_8, h0_9])), (h1, .inr (0, [.ref hs, .ref ha, .ref hb9, .ref hc9, .int bn, .int bl])), (hs, .inl (chs, 80, .inl fhs)), (ha, .inl (cha, 80, .inl fha)), (hb9, .inl (chb9, 80, .inl fhb9)), (hc9, .inl (chc9, 80, .inl fhc9))] H_55 := hP
            have hD : va_D A [(h0, .inr (11, [h0_0, .ref h1, h0_2, h0_3, h0_4, h0_5, h0_6, h0_7, h0_8, h0_9])), (h1, .inr (0, [.ref hs, .ref ha, .ref hb9, .ref hc9, .int bn, .int bl])), (hs, .inl (chs, 80, .inl fhs)), (ha, .inl (cha, 80, .inl fha)), (hb9, .inl (chb9, 80, .inl fhb9)), (hc9, .inl (chc9, 80, .inl fhc9))] := hD
            clear hPc hDc hKc
            rcases hw_57 with ⟨rfl, hw_57⟩ | ⟨rfl, hw_57⟩
            · have hw_57 : (0 ≤ p3.toInt ∧ p3.toInt < bl.toInt) := hw_57
              refine lv_if_eq (tgt := 99) hx hb dX11_note_77 (by decide) (fun c_58 => absurd c_58 (by decide)) (fun _ => ?_)
              refine lv_iload_n hx hb dX11_note_80 rfl (lv_at hl 2 rfl) ?_
              refine lv_iload_n hx hb dX11_note_81 rfl (lv_at hl 3 rfl) ?_
              refine lv_icmp_eq (tgt := 99) hx hb dX11_note_82 (by decide) (fun c_59 => ?_) (fun c_59 => ?_)
              · have k_60 : (p2).toInt = (p3).toInt := z_eq c_59
                refine lv_iconst (v := (-1)) hx hb dX11_note_99 (by decide) ?_
                have hP9 := hP.sub (ws' := [(h0, .inr (11, [h0_0, .ref h1, h0_2, h0_3, h0_4, h0_5, h0_6, h0_7, h0_8, h0_9])), (h1, .inr (0, [.ref hs, .ref ha, .ref hb9, .ref hc9, .int bn, .int bl])), (hs, .inl (chs, 80, .inl fhs)), (ha, .inl (cha, 80, .inl fha)), (hb9, .inl (chb9, 80, .inl fhb9)), (hc9, .inl (chc9, 80, .inl fhc9))]) [0, 1, 2, 3, 4, 5] rfl
                have hD9 := hD.sub (ws' := [(h0, .inr (11, [h0_0, .ref h1, h0_2, h0_3, h0_4, h0_5, h0_6, h0_7, h0_8, h0_9])), (h1, .inr (0, [.ref hs, .ref ha, .ref hb9, .ref hc9, .int bn, .int bl])), (hs, .inl (chs, 80, .inl fhs)), (ha, .inl (cha, 80, .inl fha)), (hb9, .inl (chb9, 80, .inl fhb9)), (hc9, .inl (chc9, 80, .inl fhc9))]) [0, 1, 2, 3, 4, 5] (by decide) rfl
                have hK9 := hK.sub (tys' := []) [] rfl
                refine W.widen (k := 0) (n := 0) (Nat.le_of_ble_eq_true rfl) (Nat.le_of_ble_eq_true rfl) ?_
                exact W.iret (v := (-1)) hx hb hr (fun t ht hW => ⟨⟨(-1), (), rfl, (show (-1) = v_noA bl bn p1 p2 p3 p4 from (v_noA_n (by unfold v_nok; omega)).symm), ⟨bn, fhs, fha, fhb9, fhc9, (by first | omega | decide), hI_ha, hR, (show bn = v_noN bl bn p1 p2 p3 p4 from (v_noN_n (by unfold v_nok; omega)).symm), by rw [ht]; exact hP9, va_K.moved hW.alike hK9, hD9⟩⟩, hS.F ht⟩) hS.2.2 dX11_note_100
              · have k_61 : (p2).toInt ≠ (p3).toInt := z_ne c_59
                refine lv_aload_n hx hb dX11_note_85 rfl (lv_at hl 0 rfl) ?_
                refine va_get (D := (dC, dI)) (ci := 11) (v := .ref h1) (C := RX11) (T := TX11) (N := 10) hx hb hts hiX11 hown hK hP 0 rfl rfl 1 (by decide) w__fieldLink_RX11_19_ShellHeap_book_LShellHeap_Book_ (fun _ h9 => h9) rfl dX11_note_86 ?_
                refine lv_iload_n hx hb dX11_note_89 rfl (lv_at hl 1 rfl) ?_
                refine lv_iload_n hx hb dX11_note_90 rfl (lv_at hl 2 rfl) ?_
                refine lv_iload_n hx hb dX11_note_91 rfl (lv_at hl 3 rfl) ?_
                refine lv_iconst (v := 0) hx hb dX11_note_92 (by decide) ?_
                have hPc := hP.sub (ws' := [(h1, .inr (0, [.ref hs, .ref ha, .ref hb9, .ref hc9, .int bn, .int bl])), (hs, .inl (chs, 80, .inl fhs)), (ha, .inl (cha, 80, .inl fha)), (hb9, .inl (chb9, 80, .inl fhb9)), (hc9, .inl (chc9, 80, .inl fhc9))]) [1, 2, 3, 4, 5] rfl
                have hDc := hD.sub (ws' := [(h1, .inr (0, [.ref hs, .ref ha, .ref hb9, .ref hc9, .int bn, .int bl])), (hs, .inl (chs, 80, .inl fhs)), (ha, .inl (cha, 80, .inl fha)), (hb9, .inl (chb9, 80, .inl fhb9)), (hc9, .inl (chc9, 80, .inl fhc9))]) [1, 2, 3, 4, 5] (by decide) rfl
                have hKc := hK.sub (tys' := [(chs, .int), (cha, .int), (chb9, .int), (chc9, .int)]) [0, 1, 2, 3] rfl
                have hFc := va_free (wc := [(h1, .inr (0, [.ref hs, .ref ha, .ref hb9, .ref hc9, .int bn, .int bl])), (hs, .inl (chs, 80, .inl fhs)), (ha, .inl (cha, 80, .inl fha)), (hb9, .inl (chb9, 80, .inl fhb9)), (hc9, .inl (chc9, 80, .inl fhc9))]) hD hS hA [1, 2, 3, 4, 5] rfl
                refine va_calli (va_runV (As := [.int p1, .int p2, .int p3, .int 0]) (rest := []) ⟨hx, hb, hml, hown, hts⟩ (s_X0_write3 l dC dI H_55.size h1 p1 p2 p3 0 hs ha hb9 hc9 bn (.int bl) chs fhs cha fha chb9 fhb9 chc9 fhc9 (by first | omega | decide) (by first | omega | decide) hI_ha hR (show ((0 : Int) ≤ (p2).toInt ∧ (p2).toInt ≤ (79 : Int)) ∧ ((p1).toInt ≠ (5 : Int) → (p2).toInt ≤ (11 : Int)) ∧ ((p1).toInt ≤ (2 : Int) → (0 : Int) ≤ (p3).toInt ∧ (p3).toInt ≤ (11 : Int)) by omega)) (cwV 4 hts gw_s_X11_note3_s_X0_write3_127 rfl rfl rfl (by decide +kernel) ⟨Nat.le_of_ble_eq_true rfl, Nat.le_of_ble_eq_true rfl⟩) ⟨z_blind, va_recv hKc hPc (ci := 0) (q0 := 0) rfl rfl, z_pre hPc hKc hDc⟩ rfl rfl hl.1 rfl (lv_room (Nat.le_of_ble_eq_true rfl)) dX11_note_93 ⟨Nat.le_of_ble_eq_true rfl, Nat.le_of_ble_eq_true rfl⟩) hS (fun q _ h => hFc q h) hFc (fun r_63 u t H_62 locs ht hvm hw_64 hB hz1 hk1 hS => ?_)
                obtain ⟨n_h0_notes_65, g_hs_66, g_ha_67, g_hb9_68, g_hc9_69, hp_70, hp_71, hp_72, hp_73, hP1, hK1, hD1⟩ := hB
                rw [ht] at hP1
                have hK1 := va_K.moved hvm.symm hK1
                obtain ⟨hP, hD⟩ := va_join (wr := [(h0, .inr (11, [h0_0, .ref h1, h0_2, h0_3, h0_4, h0_5, h0_6, h0_7, h0_8, h0_9]))]) (w1 := [(h1, .inr (0, [.ref hs, .ref ha, .ref hb9, .ref hc9, .int n_h0_notes_65, .int bl])), (hs, .inl (chs, 80, .inl g_hs_66)), (ha, .inl (cha, 80, .inl g_ha_67)), (hb9, .inl (chb9, 80, .inl g_hb9_68)), (hc9, .inl (chc9, 80, .inl g_hc9_69))]) hP hD [1, 2, 3, 4, 5] [0] rfl rfl (by decide) (by decide) hk1 hFc hP1 hD1
                have hR := hp_72
                have hp_73 : n_h0_notes_65 = v_wrN bn := hp_73
                have hP : va_P (dC, dI) vwCl [(h0, .inr (11, [h0_0, .ref h1, h0_2, h0_3, h0_4, h0_5, h0_6, h0_7, h0_8, h0_9])), (h1, .inr (0, [.ref hs, .ref ha, .ref hb9, .ref hc9, .int n_h0_notes_65, .int bl])), (hs, .inl (chs, 80, .inl g_hs_66)), (ha, .inl (cha, 80, .inl g_ha_67)), (hb9, .inl (chb9, 80, .inl g_hb9_68)), (hc9, .inl (chc9, 80, .inl g_hc9_69))] H_62 := hP
                have hD : va_D A [(h0, .inr (11, [h0_0, .ref h1, h0_2, h0_3, h0_4, h0_5, h0_6, h0_7, h0_8, h0_9])), (h1, .inr (0, [.ref hs, .ref ha, .ref hb9, .ref hc9, .int n_h0_notes_65, .int bl])), (hs, .inl (chs, 80, .inl g_hs_66)), (ha, .inl (cha, 80, .inl g_ha_67)), (hb9, .inl (chb9, 80, .inl g_hb9_68)), (hc9, .inl (chc9, 80, .inl g_hc9_69))] := hD
                clear hPc hDc hKc
                refine lv_goto (tgt := 100) hx hb dX11_note_96 (by decide) ?_
                have hP9 := hP.sub (ws' := [(h0, .inr (11, [h0_0, .ref h1, h0_2, h0_3, h0_4, h0_5, h0_6, h0_7, h0_8, h0_9])), (h1, .inr (0, [.ref hs, .ref ha, .ref hb9, .ref hc9, .int n_h0_notes_65, .int bl])), (hs, .inl (chs, 80, .inl g_hs_66)), (ha, .inl (cha, 80, .inl g_ha_67)), (hb9, .inl (chb9, 80, .inl g_hb9_68)), (hc9, .inl (chc9, 80, .inl g_hc9_69))]) [0, 1, 2, 3, 4, 5] rfl
                have hD9 := hD.sub (ws' := [(h0, .inr (11, [h0_0, .ref h1, h0_2, h0_3, h0_4, h0_5, h0_6, h0_7, h0_8, h0_9])), (h1, .inr (0, [.ref hs, .ref ha, .ref hb9, .ref hc9, .int n_h0_notes_65, .int bl])), (hs, .inl (chs, 80, .inl g_hs_66)), (ha, .inl (cha, 80, .inl g_ha_67)), (hb9, .inl (chb9, 80, .inl g_hb9_68)), (hc9, .inl (chc9, 80, .inl g_hc9_69))]) [0, 1, 2, 3, 4, 5] (by decide) rfl
                have hK9 := hK.sub (tys' := []) [] rfl
                refine W.widen (k := 0) (n := 0) (Nat.le_of_ble_eq_true rfl) (Nat.le_of_ble_eq_true rfl) ?_
                exact W.iret (v := r_63) hx hb hr (fun t ht hW => ⟨⟨r_63, (), rfl, (show r_63 = v_noA bl bn p1 p2 p3 p4 from v_noA_w hw_64 (by unfold v_nok; omega)), ⟨n_h0_notes_65, g_hs_66, g_ha_67, g_hb9_68, g_hc9_69, (by first | omega | decide), hp_71, hR, (show n_h0_notes_65 = v_noN bl bn p1 p2 p3 p4 from v_noN_w hp_73 (by unfold v_nok; omega)), by rw [ht]; exact hP9, va_K.moved hW.alike hK9, hD9⟩⟩, hS.F ht⟩) hS.2.2 dX11_note_100
            · have hw_57 : ¬ (0 ≤ p3.toInt ∧ p3.toInt < bl.toInt) := hw_57
              refine lv_if_eq (tgt := 99) hx hb dX11_note_77 (by decide) (fun _ => ?_) (fun c_74 => absurd (by decide) c_74)
              refine lv_iconst (v := (-1)) hx hb dX11_note_99 (by decide) ?_
              have hP9 := hP.sub (ws' := [(h0, .inr (11, [h0_0, .ref h1, h0_2, h0_3, h0_4, h0_5, h0_6, h0_7, h0_8, h0_9])), (h1, .inr (0, [.ref hs, .ref ha, .ref hb9, .ref hc9, .int bn, .int bl])), (hs, .inl (chs, 80, .inl fhs)), (ha, .inl (cha, 80, .inl fha)), (hb9, .inl (chb9, 80, .inl fhb9)), (hc9, .inl (chc9, 80, .inl fhc9))]) [0, 1, 2, 3, 4, 5] rfl
              have hD9 := hD.sub (ws' := [(h0, .inr (11, [h0_0, .ref h1, h0_2, h0_3, h0_4, h0_5, h0_6, h0_7, h0_8, h0_9])), (h1, .inr (0, [.ref hs, .ref ha, .ref hb9, .ref hc9, .int bn, .int bl])), (hs, .inl (chs, 80, .inl fhs)), (ha, .inl (cha, 80, .inl fha)), (hb9, .inl (chb9, 80, .inl fhb9)), (hc9, .inl (chc9, 80, .inl fhc9))]) [0, 1, 2, 3, 4, 5] (by decide) rfl
              have hK9 := hK.sub (tys' := []) [] rfl
              refine W.widen (k := 0) (n := 0) (Nat.le_of_ble_eq_true rfl) (Nat.le_of_ble_eq_true rfl) ?_
              exact W.iret (v := (-1)) hx hb hr (fun t ht hW => ⟨⟨(-1), (), rfl, (show (-1) = v_noA bl bn p1 p2 p3 p4 from (v_noA_n (by unfold v_nok; omega)).symm), ⟨bn, fhs, fha, fhb9, fhc9, (by first | omega | decide), hI_ha, hR, (show bn = v_noN bl bn p1 p2 p3 p4 from (v_noN_n (by unfold v_nok; omega)).symm), by rw [ht]; exact hP9, va_K.moved hW.alike hK9, hD9⟩⟩, hS.F ht⟩) hS.2.2 dX11_note_100
          · have k_75 : (p1).toInt ≠ (2 : Int) := z_ne c_53
            refine lv_iconst (v := (-1)) hx hb dX11_note_67 (by decide) ?_
            have hP9 := hP.sub (ws' := [(h0, .inr (11, [h0_0, .ref h1, h0_2, h0_3, h0_4, h0_5, h0_6, h0_7, h0_8, h0_9])), (h1, .inr (0, [.ref hs, .ref ha, .ref hb9, .ref hc9, .int bn, .int bl])), (hs, .inl (chs, 80, .inl fhs)), (ha, .inl (cha, 80, .inl fha)), (hb9, .inl (chb9, 80, .inl fhb9)), (hc9, .inl (chc9, 80, .inl fhc9))]) [0, 1, 2, 3, 4, 5] rfl
            have hD9 := hD.sub (ws' := [(h0, .inr (11, [h0_0, .ref h1, h0_2, h0_3, h0_4, h0_5, h0_6, h0_7, h0_8, h0_9])), (h1, .inr (0, [.ref hs, .ref ha, .ref hb9, .ref hc9, .int bn, .int bl])), (hs, .inl (chs, 80, .inl fhs)), (ha, .inl (cha, 80, .inl fha)), (hb9, .inl (chb9, 80, .inl fhb9)), (hc9, .inl (chc9, 80, .inl fhc9))]) [0, 1, 2, 3, 4, 5] (by decide) rfl
            have hK9 := hK.sub (tys' := []) [] rfl
            refine W.widen (k := 0) (n := 0) (Nat.le_of_ble_eq_true rfl) (Nat.le_of_ble_eq_true rfl) ?_
            exact W.iret (v := (-1)) hx hb hr (fun t ht hW => ⟨⟨(-1), (), rfl, (show (-1) = v_noA bl bn p1 p2 p3 p4 from (v_noA_n (by unfold v_nok; omega)).symm), ⟨bn, fhs, fha, fhb9, fhc9, (by first | omega | decide), hI_ha, hR, (show bn = v_noN bl bn p1 p2 p3 p4 from (v_noN_n (by unfold v_nok; omega)).symm), by rw [ht]; exact hP9, va_K.moved hW.alike hK9, hD9⟩⟩, hS.F ht⟩) hS.2.2 dX11_note_68
    · have k_76 : (p1).toInt = (3 : Int) := z_eq c_5
      refine lv_iload_n hx hb dX11_note_18 rfl (lv_at hl 3 rfl) ?_
      refine lv_if_lt (tgt := 51) hx hb dX11_note_19 (by decide) (fun c_77 => ?_) (fun c_77 => ?_)
      · have k_78 : (p3).toInt < (0 : Int) := z_lt c_77
        refine lv_iconst (v := (-1)) hx hb dX11_note_51 (by decide) ?_
        have hP9 := hP.sub (ws' := [(h0, .inr (11, [h0_0, .ref h1, h0_2, h0_3, h0_4, h0_5, h0_6, h0_7, h0_8, h0_9])), (h1, .inr (0, [.ref hs, .ref ha, .ref hb9, .ref hc9, .int bn, .int bl])), (hs, .inl (chs, 80, .inl fhs)), (ha, .inl (cha, 80, .inl fha)), (hb9, .inl (chb9, 80, .inl fhb9)), (hc9, .inl (chc9, 80, .inl fhc9))]) [0, 1, 2, 3, 4, 5] rfl
        have hD9 := hD.sub (ws' := [(h0, .inr (11, [h0_0, .ref h1, h0_2, h0_3, h0_4, h0_5, h0_6, h0_7, h0_8, h0_9])), (h1, .inr (0, [.ref hs, .ref ha, .ref hb9, .ref hc9, .int bn, .int bl])), (hs, .inl (chs, 80, .inl fhs)), (ha, .inl (cha, 80, .inl fha)), (hb9, .inl (chb9, 80, .inl fhb9)), (hc9, .inl (chc9, 80, .inl fhc9))]) [0, 1, 2, 3, 4, 5] (by decide) rfl
        have hK9 := hK.sub (tys' := []) [] rfl
        refine W.widen (k := 0) (n := 0) (Nat.le_of_ble_eq_true rfl) (Nat.le_of_ble_eq_true rfl) ?_
        exact W.iret (v := (-1)) hx hb hr (fun t ht hW => ⟨⟨(-1), (), rfl, (show (-1) = v_noA bl bn p1 p2 p3 p4 from (v_noA_n (by unfold v_nok; omega)).symm), ⟨bn, fhs, fha, fhb9, fhc9, (by first | omega | decide), hI_ha, hR, (show bn = v_noN bl bn p1 p2 p3 p4 from (v_noN_n (by unfold v_nok; omega)).symm), by rw [ht]; exact hP9, va_K.moved hW.alike hK9, hD9⟩⟩, hS.F ht⟩) hS.2.2 dX11_note_52
      · have k_79 : (p3).toInt ≥ (0 : Int) := z_nlt c_77
        refine lv_iload_n hx hb dX11_note_22 rfl (lv_at hl 3 rfl) ?_
        refine lv_iload hx hb dX11_note_23 (lv_at hl 4 rfl) ?_
        refine lv_icmp_gt (tgt := 51) hx hb dX11_note_25 (by decide) (fun c_80 => ?_) (fun c_80 => ?_)
        · have k_81 : (p4).toInt < (p3).toInt := z_lt c_80
          refine lv_iconst (v := (-1)) hx hb dX11_note_51 (by decide) ?_
          have hP9 := hP.sub (ws' := [(h0, .inr (11, [h0_0, .ref h1, h0_2, h0_3, h0_4, h0_5, h0_6, h0_7, h0_8, h0_9])), (h1, .inr (0, [.ref hs, .ref ha, .ref hb9, .ref hc9, .int bn, .int bl])), (hs, .inl (chs, 80, .inl fhs)), (ha, .inl (cha, 80, .inl fha)), (hb9, .inl (chb9, 80, .inl fhb9)), (hc9, .inl (chc9, 80, .inl fhc9))]) [0, 1, 2, 3, 4, 5] rfl
          have hD9 := hD.sub (ws' := [(h0, .inr (11, [h0_0, .ref h1, h0_2, h0_3, h0_4, h0_5, h0_6, h0_7, h0_8, h0_9])), (h1, .inr (0, [.ref hs, .ref ha, .ref hb9, .ref hc9, .int bn, .int bl])), (hs, .inl (chs, 80, .inl fhs)), (ha, .inl (cha, 80, .inl fha)), (hb9, .inl (chb9, 80, .inl fhb9)), (hc9, .inl (chc9, 80, .inl fhc9))]) [0, 1, 2, 3, 4, 5] (by decide) rfl
          have hK9 := hK.sub (tys' := []) [] rfl
          refine W.widen (k := 0) (n := 0) (Nat.le_of_ble_eq_true rfl) (Nat.le_of_ble_eq_true rfl) ?_
          exact W.iret (v := (-1)) hx hb hr (fun t ht hW => ⟨⟨(-1), (), rfl, (show (-1) = v_noA bl bn p1 p2 p3 p4 from (v_noA_n (by unfold v_nok; omega)).symm), ⟨bn, fhs, fha, fhb9, fhc9, (by first | omega | decide), hI_ha, hR, (show bn = v_noN bl bn p1 p2 p3 p4 from (v_noN_n (by unfold v_nok; omega)).symm), by rw [ht]; exact hP9, va_K.moved hW.alike hK9, hD9⟩⟩, hS.F ht⟩) hS.2.2 dX11_note_52
        · have k_82 : (p4).toInt ≥ (p3).toInt := z_nlt c_80
          refine lv_iload hx hb dX11_note_28 (lv_at hl 4 rfl) ?_
          refine lv_sipush (v := 9999) hx hb dX11_note_30 (by decide) ?_
          refine lv_icmp_gt (tgt := 51) hx hb dX11_note_33 (by decide) (fun c_83 => ?_) (fun c_83 => ?_)
          · have k_84 : (9999 : Int) < (p4).toInt := z_lt c_83
            refine lv_iconst (v := (-1)) hx hb dX11_note_51 (by decide) ?_
            have hP9 := hP.sub (ws' := [(h0, .inr (11, [h0_0, .ref h1, h0_2, h0_3, h0_4, h0_5, h0_6, h0_7, h0_8, h0_9])), (h1, .inr (0, [.ref hs, .ref ha, .ref hb9, .ref hc9, .int bn, .int bl])), (hs, .inl (chs, 80, .inl fhs)), (ha, .inl (cha, 80, .inl fha)), (hb9, .inl (chb9, 80, .inl fhb9)), (hc9, .inl (chc9, 80, .inl fhc9))]) [0, 1, 2, 3, 4, 5] rfl
            have hD9 := hD.sub (ws' := [(h0, .inr (11, [h0_0, .ref h1, h0_2, h0_3, h0_4, h0_5, h0_6, h0_7, h0_8, h0_9])), (h1, .inr (0, [.ref hs, .ref ha, .ref hb9, .ref hc9, .int bn, .int bl])), (hs, .inl (chs, 80, .inl fhs)), (ha, .inl (cha, 80, .inl fha)), (hb9, .inl (chb9, 80, .inl fhb9)), (hc9, .inl (chc9, 80, .inl fhc9))]) [0, 1, 2, 3, 4, 5] (by decide) rfl
            have hK9 := hK.sub (tys' := []) [] rfl
            refine W.widen (k := 0) (n := 0) (Nat.le_of_ble_eq_true rfl) (Nat.le_of_ble_eq_true rfl) ?_
            exact W.iret (v := (-1)) hx hb hr (fun t ht hW => ⟨⟨(-1), (), rfl, (show (-1) = v_noA bl bn p1 p2 p3 p4 from (v_noA_n (by unfold v_nok; omega)).symm), ⟨bn, fhs, fha, fhb9, fhc9, (by first | omega | decide), hI_ha, hR, (show bn = v_noN bl bn p1 p2 p3 p4 from (v_noN_n (by unfold v_nok; omega)).symm), by rw [ht]; exact hP9, va_K.moved hW.alike hK9, hD9⟩⟩, hS.F ht⟩) hS.2.2 dX11_note_52
          · have k_85 : (9999 : Int) ≥ (p4).toInt := z_nlt c_83
            refine lv_aload_n hx hb dX11_note_36 rfl (lv_at hl 0 rfl) ?_
            refine va_get (D := (dC, dI)) (ci := 11) (v := .ref h1) (C := RX11) (T := TX11) (N := 10) hx hb hts hiX11 hown hK hP 0 rfl rfl 1 (by decide) w__fieldLink_RX11_19_ShellHeap_book_LShellHeap_Book_ (fun _ h9 => h9) rfl dX11_note_37 ?_
            refine lv_iload_n hx hb dX11_note_40 rfl (lv_at hl 1 rfl) ?_
            refine lv_iload_n hx hb dX11_note_41 rfl (lv_at hl 2 rfl) ?_
            refine lv_iload_n hx hb dX11_note_42 rfl (lv_at hl 3 rfl) ?_
            refine lv_iload hx hb dX11_note_43 (lv_at hl 4 rfl) ?_
            have hPc := hP.sub (ws' := [(h1, .inr (0, [.ref hs, .ref ha, .ref hb9, .ref hc9, .int bn, .int bl])), (hs, .inl (chs, 80, .inl fhs)), (ha, .inl (cha, 80, .inl fha)), (hb9, .inl (chb9, 80, .inl fhb9)), (hc9, .inl (chc9, 80, .inl fhc9))]) [1, 2, 3, 4, 5] rfl
            have hDc := hD.sub (ws' := [(h1, .inr (0, [.ref hs, .ref ha, .ref hb9, .ref hc9, .int bn, .int bl])), (hs, .inl (chs, 80, .inl fhs)), (ha, .inl (cha, 80, .inl fha)), (hb9, .inl (chb9, 80, .inl fhb9)), (hc9, .inl (chc9, 80, .inl fhc9))]) [1, 2, 3, 4, 5] (by decide) rfl
            have hKc := hK.sub (tys' := [(chs, .int), (cha, .int), (chb9, .int), (chc9, .int)]) [0, 1, 2, 3] rfl
            have hFc := va_free (wc := [(h1, .inr (0, [.ref hs, .ref ha, .ref hb9, .ref hc9, .int bn, .int bl])), (hs, .inl (chs, 80, .inl fhs)), (ha, .inl (cha, 80, .inl fha)), (hb9, .inl (chb9, 80, .inl fhb9)), (hc9, .inl (chc9, 80, .inl fhc9))]) hD hS hA [1, 2, 3, 4, 5] rfl
            refine va_calli (va_runV (As := [.int p1, .int p2, .int p3, .int p4]) (rest := []) ⟨hx, hb, hml, hown, hts⟩ (s_X0_write3 l dC dI H_1.size h1 p1 p2 p3 p4 hs ha hb9 hc9 bn (.int bl) chs fhs cha fha chb9 fhb9 chc9 fhc9 (by first | omega | decide) (by first | omega | decide) hI_ha hR (show ((0 : Int) ≤ (p2).toInt ∧ (p2).toInt ≤ (79 : Int)) ∧ ((p1).toInt ≠ (5 : Int) → (p2).toInt ≤ (11 : Int)) ∧ ((p1).toInt ≤ (2 : Int) → (0 : Int) ≤ (p3).toInt ∧ (p3).toInt ≤ (11 : Int)) by omega)) (cwV 4 hts gw_s_X11_note3_s_X0_write3_127 rfl rfl rfl (by decide +kernel) ⟨Nat.le_of_ble_eq_true rfl, Nat.le_of_ble_eq_true rfl⟩) ⟨z_blind, va_recv hKc hPc (ci := 0) (q0 := 0) rfl rfl, z_pre hPc hKc hDc⟩ rfl rfl hl.1 rfl (lv_room (Nat.le_of_ble_eq_true rfl)) dX11_note_45 ⟨Nat.le_of_ble_eq_true rfl, Nat.le_of_ble_eq_true rfl⟩) hS (fun q _ h => hFc q h) hFc (fun r_87 u t H_86 locs ht hvm hw_88 hB hz1 hk1 hS => ?_)
            obtain ⟨n_h0_notes_89, g_hs_90, g_ha_91, g_hb9_92, g_hc9_93, hp_94, hp_95, hp_96, hp_97, hP1, hK1, hD1⟩ := hB
            rw [ht] at hP1
            have hK1 := va_K.moved hvm.symm hK1
            obtain ⟨hP, hD⟩ := va_join (wr := [(h0, .inr (11, [h0_0, .ref h1, h0_2, h0_3, h0_4, h0_5, h0_6, h0_7, h0_8, h0_9]))]) (w1 := [(h1, .inr (0, [.ref hs, .ref ha, .ref hb9, .ref hc9, .int n_h0_notes_89, .int bl])), (hs, .inl (chs, 80, .inl g_hs_90)), (ha, .inl (cha, 80, .inl g_ha_91)), (hb9, .inl (chb9, 80, .inl g_hb9_92)), (hc9, .inl (chc9, 80, .inl g_hc9_93))]) hP hD [1, 2, 3, 4, 5] [0] rfl rfl (by decide) (by decide) hk1 hFc hP1 hD1
            have hR := hp_96
            have hp_97 : n_h0_notes_89 = v_wrN bn := hp_97
            have hP : va_P (dC, dI) vwCl [(h0, .inr (11, [h0_0, .ref h1, h0_2, h0_3, h0_4, h0_5, h0_6, h0_7, h0_8, h0_9])), (h1, .inr (0, [.ref hs, .ref ha, .ref hb9, .ref hc9, .int n_h0_notes_89, .int bl])), (hs, .inl (chs, 80, .inl g_hs_90)), (ha, .inl (cha, 80, .inl g_ha_91)), (hb9, .inl (chb9, 80, .inl g_hb9_92)), (hc9, .inl (chc9, 80, .inl g_hc9_93))] H_86 := hP
            have hD : va_D A [(h0, .inr (11, [h0_0, .ref h1, h0_2, h0_3, h0_4, h0_5, h0_6, h0_7, h0_8, h0_9])), (h1, .inr (0, [.ref hs, .ref ha, .ref hb9, .ref hc9, .int n_h0_notes_89, .int bl])), (hs, .inl (chs, 80, .inl g_hs_90)), (ha, .inl (cha, 80, .inl g_ha_91)), (hb9, .inl (chb9, 80, .inl g_hb9_92)), (hc9, .inl (chc9, 80, .inl g_hc9_93))] := hD
            clear hPc hDc hKc
            refine lv_goto (tgt := 52) hx hb dX11_note_48 (by decide) ?_
            have hP9 := hP.sub (ws' := [(h0, .inr (11, [h0_0, .ref h1, h0_2, h0_3, h0_4, h0_5, h0_6, h0_7, h0_8, h0_9])), (h1, .inr (0, [.ref hs, .ref ha, .ref hb9, .ref hc9, .int n_h0_notes_89, .int bl])), (hs, .inl (chs, 80, .inl g_hs_90)), (ha, .inl (cha, 80, .inl g_ha_91)), (hb9, .inl (chb9, 80, .inl g_hb9_92)), (hc9, .inl (chc9, 80, .inl g_hc9_93))]) [0, 1, 2, 3, 4, 5] rfl
            have hD9 := hD.sub (ws' := [(h0, .inr (11, [h0_0, .ref h1, h0_2, h0_3, h0_4, h0_5, h0_6, h0_7, h0_8, h0_9])), (h1, .inr (0, [.ref hs, .ref ha, .ref hb9, .ref hc9, .int n_h0_notes_89, .int bl])), (hs, .inl (chs, 80, .inl g_hs_90)), (ha, .inl (cha, 80, .inl g_ha_91)), (hb9, .inl (chb9, 80, .inl g_hb9_92)), (hc9, .inl (chc9, 80, .inl g_hc9_93))]) [0, 1, 2, 3, 4, 5] (by decide) rfl
            have hK9 := hK.sub (tys' := []) [] rfl
            refine W.widen (k := 0) (n := 0) (Nat.le_of_ble_eq_true rfl) (Nat.le_of_ble_eq_true rfl) ?_
            exact W.iret (v := r_87) hx hb hr (fun t ht hW => ⟨⟨r_87, (), rfl, (show r_87 = v_noA bl bn p1 p2 p3 p4 from v_noA_w hw_88 (by unfold v_nok; omega)), ⟨n_h0_notes_89, g_hs_90, g_ha_91, g_hb9_92, g_hc9_93, (by first | omega | decide), hp_95, hR, (show n_h0_notes_89 = v_noN bl bn p1 p2 p3 p4 from v_noN_w hp_97 (by unfold v_nok; omega)), by rw [ht]; exact hP9, va_K.moved hW.alike hK9, hD9⟩⟩, hS.F ht⟩) hS.2.2 dX11_note_52
  · have hw_3 : ¬ (0 ≤ p2.toInt ∧ p2.toInt < bl.toInt) := hw_3
    refine lv_if_ne (tgt := 13) hx hb dX11_note_8 (by decide) (fun c_98 => absurd c_98 (by decide)) (fun _ => ?_)
    refine lv_iconst (v := (-1)) hx hb dX11_note_11 (by decide) ?_
    have hP9 := hP.sub (ws' := [(h0, .inr (11, [h0_0, .ref h1, h0_2, h0_3, h0_4, h0_5, h0_6, h0_7, h0_8, h0_9])), (h1, .inr (0, [.ref hs, .ref ha, .ref hb9, .ref hc9, .int bn, .int bl])), (hs, .inl (chs, 80, .inl fhs)), (ha, .inl (cha, 80, .inl fha)), (hb9, .inl (chb9, 80, .inl fhb9)), (hc9, .inl (chc9, 80, .inl fhc9))]) [0, 1, 2, 3, 4, 5] rfl
    have hD9 := hD.sub (ws' := [(h0, .inr (11, [h0_0, .ref h1, h0_2, h0_3, h0_4, h0_5, h0_6, h0_7, h0_8, h0_9])), (h1, .inr (0, [.ref hs, .ref ha, .ref hb9, .ref hc9, .int bn, .int bl])), (hs, .inl (chs, 80, .inl fhs)), (ha, .inl (cha, 80, .inl fha)), (hb9, .inl (chb9, 80, .inl fhb9)), (hc9, .inl (chc9, 80, .inl fhc9))]) [0, 1, 2, 3, 4, 5] (by decide) rfl
    have hK9 := hK.sub (tys' := []) [] rfl
    refine W.widen (k := 0) (n := 0) (Nat.le_of_ble_eq_true rfl) (Nat.le_of_ble_eq_true rfl) ?_
    exact W.iret (v := (-1)) hx hb hr (fun t ht hW => ⟨⟨(-1), (), rfl, (show (-1) = v_noA bl bn p1 p2 p3 p4 from (v_noA_n (by unfold v_nok; omega)).symm), ⟨bn, fhs, fha, fhb9, fhc9, (by first | omega | decide), hI_ha, hR, (show bn = v_noN bl bn p1 p2 p3 p4 from (v_noN_n (by unfold v_nok; omega)).symm), by rw [ht]; exact hP9, va_K.moved hW.alike hK9, hD9⟩⟩, hS.F ht⟩) hS.2.2 dX11_note_12
