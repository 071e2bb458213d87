def u_s_X0_isFull2 : List Cond := .code yX0_isFull cX0_isFull 1 (some .boolean) :: ([.fieldLink RX0 24 "ShellHeap$Book" "notes" "I"] ++ (wsX00 ++ []))
theorem gd_s_X0_isFull2 : z_gd u_s_X0_isFull2 := z_gdc (by decide +kernel) (z_gda gdX0 (z_gd0))
set_option maxHeartbeats 4000000 in
set_option maxRecDepth 100000 in
theorem s_X0_isFull2 (l : Launch) (dC : Nat → ClassId) (dI : Nat → Nat → Nat) (sz : Nat) (h0 : Nat) (h0_0 : Value) (h0_1 : Value) (h0_2 : Value) (h0_3 : Value) (bn : Int32) (h0_5 : Value) (hB_bn : ((0 : Int) ≤ (bn).toInt ∧ (bn).toInt ≤ (80 : Int))) : Met l yX0_isFull u_s_X0_isFull2 ({ frames := 0, cells := 0, slots := 0, locals := 0 }) (va_Pc [.ref h0] (z_C (dC, dI) vwCl [(h0, .inr (0, [h0_0, h0_1, h0_2, h0_3, .int bn, h0_5]))] [] sz)) (va_Qi (fun (r : Int32) (_ : Unit) => (r = 1 ∧ (80 ≤ bn.toInt)) ∨ (r = 0 ∧ (bn.toInt < 80))) (fun (_ : Unit) (_ : State) => True) (va_A [] sz)) 0 0 (va_A [] sz) := by
  refine Met.ofW (cc := cX0_isFull) (maxL := 1) (ret := (some .boolean)) (by decide) rfl ?_
  intro p e s m args below meth c s₁ B hml hv
  obtain ⟨rfl, hsz, hP, hK, hD0⟩ := hv
  have hx := B.exec
  have hb := B.bytes
  have hr := B.returns
  have hts := atoms_spec (ws := u_s_X0_isFull2) B.pre
  have hown : s.vm.findClass RX0 = some m.cls := findClass_of_methodNamed B.named
  have hlocks := B.notSynchronized
  subst hsz
  have hD := hD0
  generalize hAe : va_A [] s.heap.size = A
  have hA : ∀ q : Nat, s.heap.size ≤ q → A q := fun q h => by rw [← hAe]; exact Or.inr h
  have hS : va_S A s.heap s.heap [] := va_S.rf
  have hP : va_P (dC, dI) vwCl [(h0, .inr (0, [h0_0, h0_1, h0_2, h0_3, .int bn, h0_5]))] s.heap := hP
  have w__fieldLink_RX0_24_ShellHeap_Book_notes_I_ := hts (.fieldLink RX0 24 "ShellHeap$Book" "notes" "I") (z_mc (z_ml z_m0))
  have hiX0 := show ∀ w ∈ u_ws RX0 TX0 6, w ∈ u_s_X0_isFull2 from fun w h => z_mc (z_mr (z_ml h))
  have hl := lv_entry ([.ref h0]) (n := 1) (Nat.le_of_ble_eq_true rfl)
  rw [lg_entry_eq]
  generalize (lg_sl ([.ref h0]) ++ List.replicate (1 - (lg_sl ([.ref h0])).length) Slot.unset).toArray = ls at hl ⊢
  have hl : lv_has ls 1 [(0, .ref h0)] := hl
  refine lv_aload_n hx hb dX0_isFull_0 rfl (lv_at hl 0 rfl) ?_
  refine va_get (D := (dC, dI)) (ci := 0) (v := .int bn) (C := RX0) (T := TX0) (N := 6) hx hb hts hiX0 hown hK hP 0 rfl rfl 4 (by decide) w__fieldLink_RX0_24_ShellHeap_Book_notes_I_ (fun _ h9 => h9) rfl dX0_isFull_1 ?_
  refine lv_bipush (v := 80) hx hb dX0_isFull_4 (by decide) ?_
  refine lv_icmp_lt (tgt := 13) hx hb dX0_isFull_6 (by decide) (fun c_1 => ?_) (fun c_1 => ?_)
  · have k_2 : (bn).toInt < (80 : Int) := z_lt c_1
    refine lv_iconst (v := 0) hx hb dX0_isFull_13 (by decide) ?_
    refine W.widen (k := 0) (n := 0) (Nat.le_of_ble_eq_true rfl) (Nat.le_of_ble_eq_true rfl) ?_
    exact W.zret (v := 0) hx hb hr (by rfl) (fun t ht hW => ⟨⟨0, (), rfl, (Or.inr (⟨rfl, by first | omega | decide⟩)), trivial⟩, hS.F ht⟩) hS.2.2 dX0_isFull_14
  · have k_3 : (bn).toInt ≥ (80 : Int) := z_nlt c_1
    obtain rfl : bn = 80 := z_eq' (show (bn).toInt = (80 : Int) by omega)
    refine lv_iconst (v := 1) hx hb dX0_isFull_9 (by decide) ?_
    refine lv_goto (tgt := 14) hx hb dX0_isFull_10 (by decide) ?_
    refine W.widen (k := 0) (n := 0) (Nat.le_of_ble_eq_true rfl) (Nat.le_of_ble_eq_true rfl) ?_
    exact W.zret (v := 1) hx hb hr (by rfl) (fun t ht hW => ⟨⟨1, (), rfl, (Or.inl (⟨rfl, by first | omega | decide⟩)), trivial⟩, hS.F ht⟩) hS.2.2 dX0_isFull_14
def u_s_X11_heap : List Cond := .code yX11_heap cX11_heap 3 (some .boolean) :: ([.fieldLink RX11 35 "ShellHeap" "ground" "LShellHeap$Ground;", .methodLink RX11 174 yX2_lay, .instanceMethod yX2_lay, .selects RX2 yX2_lay yX2_lay, .initialized RX2] ++ (wsX110 ++ (u_s_X2_lay ++ [])))
set_option maxRecDepth 20000 in
theorem gw_s_X11_heap_s_X2_lay_174 : GoodIn u_s_X11_heap (wsV RX11 174 RX2 yX2_lay u_s_X2_lay) := z_gV (z_gr _ [2, 3, 4, 5] rfl (by decide +kernel)) (fun w h => ⟨z_mc (z_mr (z_mr (z_ml h))), gd_s_X2_lay w h⟩)
set_option maxHeartbeats 4000000 in
set_option maxRecDepth 100000 in
theorem s_X11_heap (l : Launch) (dC : Nat → ClassId) (dI : Nat → Nat → Nat) (sz : Nat) (h0 : Nat) (p1 : Int32) (p2 : Int32) (h0_0 : Value) (h0_1 : Value) (h0_2 : Value) (h1 : Nat) (h0_4 : Value) (h0_5 : Value) (h0_6 : Value) (h0_7 : Value) (h0_8 : Value) (h0_9 : Value) (gw : Int32) (gh : Int32) (h1_2 : Value) (h1_3 : Value) (h1_4 : Value) (h1_5 : Value) (h1_6 : Value) (gc : Int32) (h1_8 : Value) (h1_9 : Value) (h1_10 : Value) (hB_gw : ((2 : Int) ≤ (gw).toInt ∧ (gw).toInt ≤ (12 : Int))) (hB_gh : ((2 : Int) ≤ (gh).toInt ∧ (gh).toInt ≤ (12 : Int))) (hB_gc : ((0 : Int) ≤ (gc).toInt ∧ (gc).toInt ≤ (10 : Int))) : Met l yX11_heap u_s_X11_heap ({ frames := 2, cells := 0, slots := 0, locals := 42 }) (va_Pc [.ref h0, .int p1, .int p2] (z_C (dC, dI) vwCl [(h0, .inr (11, [h0_0, h0_1, h0_2, .ref h1, h0_4, h0_5, h0_6, h0_7, h0_8, h0_9])), (h1, .inr (2, [.int gw, .int gh, h1_2, h1_3, h1_4, h1_5, h1_6, .int gc, h1_8, h1_9, h1_10]))] [] sz)) (va_Qi (fun (r : Int32) (_ : Unit) => ((0 : Int) ≤ (r).toInt ∧ (r).toInt ≤ (1 : Int))) (fun (_ : Unit) (t : State) => ∃ (n_h1_w : Int32), ∃ (n_h1_h : Int32), ∃ (n_h1_columns : Int32), ((2 : Int) ≤ (n_h1_w).toInt ∧ (n_h1_w).toInt ≤ (12 : Int)) ∧ ((2 : Int) ≤ (n_h1_h).toInt ∧ (n_h1_h).toInt ≤ (12 : Int)) ∧ ((0 : Int) ≤ (n_h1_columns).toInt ∧ (n_h1_columns).toInt ≤ (10 : Int)) ∧ va_P (dC, dI) vwCl [(h0, .inr (11, [h0_0, h0_1, h0_2, .ref h1, h0_4, h0_5, h0_6, h0_7, h0_8, h0_9])), (h1, .inr (2, [.int n_h1_w, .int n_h1_h, h1_2, h1_3, h1_4, h1_5, h1_6, .int n_h1_columns, h1_8, h1_9, h1_10]))] t.heap ∧ va_K (dC, dI) vwCl [] t ∧ va_D (va_A [(h0, .inr (11, [h0_0, h0_1, h0_2, .ref h1, h0_4, h0_5, h0_6, h0_7, h0_8, h0_9])), (h1, .inr (2, [.int gw, .int gh, h1_2, h1_3, h1_4, h1_5, h1_6, .int gc, h1_8, h1_9, h1_10]))] sz) [(h0, .inr (11, [h0_0, h0_1, h0_2, .ref h1, h0_4, h0_5, h0_6, h0_7, h0_8, h0_9])), (h1, .inr (2, [.int n_h1_w, .int n_h1_h, h1_2, h1_3, h1_4, h1_5, h1_6, .int n_h1_columns, h1_8, h1_9, h1_10]))]) (va_A [(h0, .inr (11, [h0_0, h0_1, h0_2, .ref h1, h0_4, h0_5, h0_6, h0_7, h0_8, h0_9])), (h1, .inr (2, [.int gw, .int gh, h1_2, h1_3, h1_4, h1_5, h1_6, .int gc, h1_8, h1_9, h1_10]))] sz)) 0 0 (va_A [(h0, .inr (11, [h0_0, h0_1, h0_2, .ref h1, h0_4, h0_5, h0_6, h0_7, h0_8, h0_9])), (h1, .inr (2, [.int gw, .int gh, h1_2, h1_3, h1_4, h1_5, h1_6, .int gc, h1_8, h1_9, h1_10]))] sz) := by
  refine Met.ofW (cc := cX11_heap) (maxL := 3) (ret := (some .boolean)) (by decide) rfl ?_
  intro p e s m args below meth c s₁ B hml hv
  obtain ⟨rfl, hsz, hP, hK, hD0⟩ := hv
  have hx := B.exec
  have hb := B.bytes
  have hr := B.returns
  have hts := atoms_spec (ws := u_s_X11_heap) B.pre
  have hown : s.vm.findClass RX11 = some m.cls := findClass_of_methodNamed B.named
  have hlocks := B.notSynchronized
  subst hsz
  have hD := hD0.self (sz := s.heap.size)
  generalize hAe : va_A [(h0, .inr (11, [h0_0, h0_1, h0_2, .ref h1, h0_4, h0_5, h0_6, h0_7, h0_8, h0_9])), (h1, .inr (2, [.int gw, .int gh, h1_2, h1_3, h1_4, h1_5, h1_6, .int gc, h1_8, h1_9, h1_10]))] s.heap.size = A at hD ⊢
  have hA : ∀ q : Nat, s.heap.size ≤ q → A q := fun q h => by rw [← hAe]; exact Or.inr h
  have hS : va_S A s.heap s.heap [] := va_S.rf
  have hP : va_P (dC, dI) vwCl [(h0, .inr (11, [h0_0, h0_1, h0_2, .ref h1, h0_4, h0_5, h0_6, h0_7, h0_8, h0_9])), (h1, .inr (2, [.int gw, .int gh, h1_2, h1_3, h1_4, h1_5, h1_6, .int gc, h1_8, h1_9, h1_10]))] s.heap := hP
  have w__fieldLink_RX11_35_ShellHeap_ground_LShellHeap_Ground_ := hts (.fieldLink RX11 35 "ShellHeap" "ground" "LShellHeap$Ground;") (z_mc (z_ml z_m0))
  have hiX11 := show ∀ w ∈ u_ws RX11 TX11 10, w ∈ u_s_X11_heap from fun w h => z_mc (z_mr (z_ml h))
  have krr_p1 := z_rng p1
  have krr_p2 := z_rng p2
  have hl := lv_entry ([.ref h0, .int p1, .int p2]) (n := 3) (Nat.le_of_ble_eq_true rfl)
  rw [lg_entry_eq]
  generalize (lg_sl ([.ref h0, .int p1, .int p2]) ++ List.replicate (3 - (lg_sl ([.ref h0, .int p1, .int p2])).length) Slot.unset).toArray = ls at hl ⊢
  have hl : lv_has ls 3 [(0, .ref h0), (1, .int p1), (2, .int p2)] := hl
  refine lv_aload_n hx hb dX11_heap_0 rfl (lv_at hl 0 rfl) ?_
  refine va_get (D := (dC, dI)) (ci := 11) (v := .ref h1) (C := RX11) (T := TX11) (N := 10) hx hb hts hiX11 hown hK hP 0 rfl rfl 3 (by decide) w__fieldLink_RX11_35_ShellHeap_ground_LShellHeap_Ground_ (fun _ h9 => h9) rfl dX11_heap_1 ?_
  refine lv_iload_n hx hb dX11_heap_4 rfl (lv_at hl 1 rfl) ?_
  refine lv_iload_n hx hb dX11_heap_5 rfl (lv_at hl 2 rfl) ?_
  obtain ⟨hPc, hDc, hFc⟩ := z_sub3 (ws' := [(h1, .inr (2, [.int gw, .int gh, h1_2, h1_3, h1_4, h1_5, h1_6, .int gc, h1_8, h1_9, h1_10]))]) hP hD hS hA [1] (by decide) rfl
  have hKc := hK
  refine va_calli (va_runV (As := [.int p1, .int p2]) (rest := []) ⟨hx, hb, hml, hown, hts⟩ (s_X2_lay l dC dI s.heap.size h1 p1 p2 gw gh h1_2 h1_3 h1_4 h1_5 h1_6 gc h1_8 h1_9 h1_10 hB_gw hB_gh hB_gc) (cwV 2 hts gw_s_X11_heap_s_X2_lay_174 rfl rfl rfl (by decide +kernel) ⟨Nat.le_of_ble_eq_true rfl, Nat.le_of_ble_eq_true rfl⟩) ⟨z_blind, va_recv hKc hPc (ci := 2) (q0 := 0) rfl rfl, z_pre hPc hKc hDc⟩ rfl rfl hl.1 rfl (lv_room (Nat.le_of_ble_eq_true rfl)) dX11_heap_6 ⟨Nat.le_of_ble_eq_true rfl, Nat.le_of_ble_eq_true rfl⟩) hS (fun q _ h => hFc q h) hFc (fun r_2 u t H_1 locs ht hvm hw_3 hB hz1 hk1 hS => ?_)
  obtain ⟨n_h0_w_4, n_h0_h_5, n_h0_columns_6, hp_7, hp_8, hp_9, hP1, hK1, hD1⟩ := hB
  rw [ht] at hP1
  have hK1 := va_K.moved hvm.symm hK1
  obtain ⟨hP, hD⟩ := z_ap_1 (va_join (wr := [(h0, .inr (11, [h0_0, h0_1, h0_2, .ref h1, h0_4, h0_5, h0_6, h0_7, h0_8, h0_9]))]) hP hD [1] [0] rfl rfl (by decide) (by decide) hk1 hFc hP1 hD1)
  clear hPc hDc hKc
  have hP9 := hP
  have hD9 := hD
  have hK9 := hK.sub (tys' := []) [] rfl
  refine W.widen (k := 0) (n := 0) (Nat.le_of_ble_eq_true rfl) (Nat.le_of_ble_eq_true rfl) ?_
  exact W.zret (v := r_2) hx hb hr (z_nb (by omega)) (fun t ht hW => ⟨⟨r_2, (), rfl, (show ((0 : Int) ≤ (r_2).toInt ∧ (r_2).toInt ≤ (1 : Int)) by omega), ⟨n_h0_w_4, n_h0_h_5, n_h0_columns_6, hp_7, hp_8, hp_9, by rw [ht]; exact hP9, va_K.moved hW.alike hK9, hD9⟩⟩, hS.F ht⟩) hS.2.2 dX11_heap_9
def u_s_X11_column : List Cond := .code yX11_column cX11_column 3 (some .int) :: ([.fieldLink RX11 35 "ShellHeap" "ground" "LShellHeap$Ground;", .methodLink RX11 177 yX2_draw, .instanceMethod yX2_draw, .selects RX2 yX2_draw yX2_draw, .initialized RX2] ++ (wsX110 ++ (u_s_X2_draw ++ [])))
set_option maxRecDepth 20000 in
theorem gw_s_X11_column_s_X2_draw_177 : GoodIn u_s_X11_column (wsV RX11 177 RX2 yX2_draw u_s_X2_draw) := z_gV (z_gr _ [2, 3, 4, 5] rfl (by decide +kernel)) (fun w h => ⟨z_mc (z_mr (z_mr (z_ml h))), gd_s_X2_draw w h⟩)
set_option maxHeartbeats 4000000 in
set_option maxRecDepth 100000 in
theorem s_X11_column (l : Launch) (dC : Nat → ClassId) (dI : Nat → Nat → Nat) (sz : Nat) (h0 : Nat) (p1 : Int32) (p2 : Int32) (h0_0 : Value) (h0_1 : Value) (h0_2 : Value) (hg : Nat) (h0_4 : Value) (h0_5 : Value) (h0_6 : Value) (h0_7 : Value) (h0_8 : Value) (h0_9 : Value) (gw : Int32) (gh : Int32) (h1 : Nat) (h2 : Nat) (hg_4 : Value) (hg_5 : Value) (h3 : Nat) (gc : Int32) (hg_8 : Value) (hg_9 : Value) (hg_10 : Value) (ch1 : ClassId) (fh1 : Nat → Int32) (ch2 : ClassId) (fh2 : Nat → Int32) (ch3 : ClassId) (fh3 : Nat → Int32) (hB_gw : ((2 : Int) ≤ (gw).toInt ∧ (gw).toInt ≤ (12 : Int))) (hB_gh : ((2 : Int) ≤ (gh).toInt ∧ (gh).toInt ≤ (12 : Int))) (hB_gc : ((0 : Int) ≤ (gc).toInt ∧ (gc).toInt ≤ (10 : Int))) : Met l yX11_column u_s_X11_column ({ frames := 1, cells := 0, slots := 0, locals := 23 }) (va_Pc [.ref h0, .int p1, .int p2] (z_C (dC, dI) vwCl [(h0, .inr (11, [h0_0, h0_1, h0_2, .ref hg, h0_4, h0_5, h0_6, h0_7, h0_8, h0_9])), (hg, .inr (2, [.int gw, .int gh, .ref h1, .ref h2, hg_4, hg_5, .ref h3, .int gc, hg_8, hg_9, hg_10])), (h1, .inl (ch1, 10, .inl fh1)), (h2, .inl (ch2, 10, .inl fh2)), (h3, .inl (ch3, 120, .inl fh3))] [(ch1, .int), (ch2, .int), (ch3, .int)] sz)) (va_Qi (fun (r : Int32) (_ : Unit) => True) (fun (_ : Unit) (t : State) => ∃ (n_hg_columns : Int32), ∃ (g_h1 : Nat → Int32), ∃ (g_h2 : Nat → Int32), ∃ (g_h3 : Nat → Int32), ((0 : Int) ≤ (n_hg_columns).toInt ∧ (n_hg_columns).toInt ≤ (10 : Int)) ∧ va_P (dC, dI) vwCl [(h0, .inr (11, [h0_0, h0_1, h0_2, .ref hg, h0_4, h0_5, h0_6, h0_7, h0_8, h0_9])), (hg, .inr (2, [.int gw, .int gh, .ref h1, .ref h2, hg_4, hg_5, .ref h3, .int n_hg_columns, hg_8, hg_9, hg_10])), (h1, .inl (ch1, 10, .inl g_h1)), (h2, .inl (ch2, 10, .inl g_h2)), (h3, .inl (ch3, 120, .inl g_h3))] t.heap ∧ va_K (dC, dI) vwCl [] t ∧ va_D (va_A [(h0, .inr (11, [h0_0, h0_1, h0_2, .ref hg, h0_4, h0_5, h0_6, h0_7, h0_8, h0_9])), (hg, .inr (2, [.int gw, .int gh, .ref h1, .ref h2, hg_4, hg_5, .ref h3, .int gc, hg_8, hg_9, hg_10])), (h1, .inl (ch1, 10, .inl fh1)), (h2, .inl (ch2, 10, .inl fh2)), (h3, .inl (ch3, 120, .inl fh3))] sz) [(h0, .inr (11, [h0_0, h0_1, h0_2, .ref hg, h0_4, h0_5, h0_6, h0_7, h0_8, h0_9])), (hg, .inr (2, [.int gw, .int gh, .ref h1, .ref h2, hg_4, hg_5, .ref h3, .int n_hg_columns, hg_8, hg_9, hg_10])), (h1, .inl (ch1, 10, .inl g_h1)), (h2, .inl (ch2, 10, .inl g_h2)), (h3, .inl (ch3, 120, .inl g_h3))]) (va_A [(h0, .inr (11, [h0_0, h0_1, h0_2, .ref hg, h0_4, h0_5, h0_6, h0_7, h0_8, h0_9])), (hg, .inr (2, [.int gw, .int gh, .ref h1, .ref h2, hg_4, hg_5, .ref h3, .int gc, hg_8, hg_9, hg_10])), (h1, .inl (ch1, 10, .inl fh1)), (h2, .inl (ch2, 10, .inl fh2)), (h3, .inl (ch3, 120, .inl fh3))] sz)) 0 0 (va_A [(h0, .inr (11, [h0_0, h0_1, h0_2, .ref hg, h0_4, h0_5, h0_6, h0_7, h0_8, h0_9])), (hg, .inr (2, [.int gw, .int gh, .ref h1, .ref h2, hg_4, hg_5, .ref h3, .int gc, hg_8, hg_9, hg_10])), (h1, .inl (ch1, 10, .inl fh1)), (h2, .inl (ch2, 10, .inl fh2)), (h3, .inl (ch3, 120, .inl fh3))] sz) := by
  refine Met.ofW (cc := cX11_column) (maxL := 3) (ret := (some .int)) (by decide) rfl ?_
  intro p e s m args below meth c s₁ B hml hv
  obtain ⟨rfl, hsz, hP, hK, hD0⟩ := hv
  have hx := B.exec
  have hb := B.bytes
  have hr := B.returns
  have hts := atoms_spec (ws := u_s_X11_column) B.pre
  have hown : s.vm.findClass RX11 = some m.cls := findClass_of_methodNamed B.named
  have hlocks := B.notSynchronized
  subst hsz
  have hD := hD0.self (sz := s.heap.size)
  generalize hAe : va_A [(h0, .inr (11, [h0_0, h0_1, h0_2, .ref hg, h0_4, h0_5, h0_6, h0_7, h0_8, h0_9])), (hg, .inr (2, [.int gw, .int gh, .ref h1, .ref h2, hg_4, hg_5, .ref h3, .int gc, hg_8, hg_9, hg_10])), (h1, .inl (ch1, 10, .inl fh1)), (h2, .inl (ch2, 10, .inl fh2)), (h3, .inl (ch3, 120, .inl fh3))] s.heap.size = A at hD ⊢
  have hA : ∀ q : Nat, s.heap.size ≤ q → A q := fun q h => by rw [← hAe]; exact Or.inr h
  have hS : va_S A s.heap s.heap [] := va_S.rf
  have hP : va_P (dC, dI) vwCl [(h0, .inr (11, [h0_0, h0_1, h0_2, .ref hg, h0_4, h0_5, h0_6, h0_7, h0_8, h0_9])), (hg, .inr (2, [.int gw, .int gh, .ref h1, .ref h2, hg_4, hg_5, .ref h3, .int gc, hg_8, hg_9, hg_10])), (h1, .inl (ch1, 10, .inl fh1)), (h2, .inl (ch2, 10, .inl fh2)), (h3, .inl (ch3, 120, .inl fh3))] s.heap := hP
  have w__fieldLink_RX11_35_ShellHeap_ground_LShellHeap_Ground_ := hts (.fieldLink RX11 35 "ShellHeap" "ground" "LShellHeap$Ground;") (z_mc (z_ml z_m0))
  have hiX11 := show ∀ w ∈ u_ws RX11 TX11 10, w ∈ u_s_X11_column from fun w h => z_mc (z_mr (z_ml h))
  have krr_p1 := z_rng p1
  have krr_p2 := z_rng p2
  have hl := lv_entry ([.ref h0, .int p1, .int p2]) (n := 3) (Nat.le_of_ble_eq_true rfl)
  rw [lg_entry_eq]
  generalize (lg_sl ([.ref h0, .int p1, .int p2]) ++ List.replicate (3 - (lg_sl ([.ref h0, .int p1, .int p2])).length) Slot.unset).toArray = ls at hl ⊢
  have hl : lv_has ls 3 [(0, .ref h0), (1, .int p1), (2, .int p2)] := hl
  refine lv_aload_n hx hb dX11_column_0 rfl (lv_at hl 0 rfl) ?_
  refine va_get (D := (dC, dI)) (ci := 11) (v := .ref hg) (C := RX11) (T := TX11) (N := 10) hx hb hts hiX11 hown hK hP 0 rfl rfl 3 (by decide) w__fieldLink_RX11_35_ShellHeap_ground_LShellHeap_Ground_ (fun _ h9 => h9) rfl dX11_column_1 ?_
  refine lv_iload_n hx hb dX11_column_4 rfl (lv_at hl 1 rfl) ?_
  refine lv_iload_n hx hb dX11_column_5 rfl (lv_at hl 2 rfl) ?_
  obtain ⟨hPc, hDc, hFc⟩ := z_sub3 (ws' := [(hg, .inr (2, [.int gw, .int gh, .ref h1, .ref h2, hg_4, hg_5, .ref h3, .int gc, hg_8, hg_9, hg_10])), (h1, .inl (ch1, 10, .inl fh1)), (h2, .inl (ch2, 10, .inl fh2)), (h3, .inl (ch3, 120, .inl fh3))]) hP hD hS hA [1, 2, 3, 4] (by decide) rfl
  have hKc := hK
  refine va_calli (va_runV (As := [.int p1, .int p2]) (rest := []) ⟨hx, hb, hml, hown, hts⟩ (s_X2_draw l dC dI s.heap.size hg p1 p2 gw gh h1 h2 hg_4 hg_5 h3 gc hg_8 hg_9 hg_10 ch1 fh1 ch2 fh2 ch3 fh3 hB_gw hB_gh hB_gc) (cwV 2 hts gw_s_X11_column_s_X2_draw_177 rfl rfl rfl (by decide +kernel) ⟨Nat.le_of_ble_eq_true rfl, Nat.le_of_ble_eq_true rfl⟩) ⟨z_blind, va_recv hKc hPc (ci := 2) (q0 := 0) rfl rfl, z_pre hPc hKc hDc⟩ rfl rfl hl.1 rfl (lv_room (Nat.le_of_ble_eq_true rfl)) dX11_column_6 ⟨Nat.le_of_ble_eq_true rfl, Nat.le_of_ble_eq_true rfl⟩) hS (fun q _ h => hFc q h) hFc (fun r_2 u t H_1 locs ht hvm hw_3 hB hz1 hk1 hS => ?_)
  obtain ⟨n_h0_columns_4, g_h1_5, g_h2_6, g_h3_7, hp_8, hP1, hK1, hD1⟩ := hB
  rw [ht] at hP1
  have hK1 := va_K.moved hvm.symm hK1
  obtain ⟨hP, hD⟩ := z_ap_1 (va_join (wr := [(h0, .inr (11, [h0_0, h0_1, h0_2, .ref hg, h0_4, h0_5, h0_6, h0_7, h0_8, h0_9]))]) hP hD [1, 2, 3, 4] [0] rfl rfl (by decide) (by decide) hk1 hFc hP1 hD1)
  clear hPc hDc hKc
  have hP9 := hP
  have hD9 := hD
  have hK9 := hK.sub (tys' := []) [] rfl
  refine W.widen (k := 0) (n := 0) (Nat.le_of_ble_eq_true rfl) (Nat.le_of_ble_eq_true rfl) ?_
  exact W.iret (v := r_2) hx hb hr (fun t ht hW => ⟨⟨r_2, (), rfl, trivial, ⟨n_h0_columns_4, g_h1_5, g_h2_6, g_h3_7, hp_8, by rw [ht]; exact hP9, va_K.moved hW.alike hK9, hD9⟩⟩, hS.F ht⟩) hS.2.2 dX11_column_9
def u_s_X11_thick : List Cond := .code yX11_thick cX11_thick 4 (some .boolean) :: ([.fieldLink RX11 35 "ShellHeap" "ground" "LShellHeap$Ground;", .fieldLink RX11 181 "ShellHeap$Ground" "columns" "I", .fieldLink RX11 19 "ShellHeap" "book" "LShellHeap$Book;", .methodLink RX11 115 yX0_hasLayer, .instanceMethod yX0_hasLayer, .selects RX0 yX0_hasLayer yX0_hasLayer, .initialized RX0, .fieldLink RX11 184 "ShellHeap$Ground" "thickness" "[I"] ++ (wsX110 ++ (wsX20 ++ (u_s_X0_hasLayer ++ []))))
set_option maxRecDepth 20000 in
theorem gw_s_X11_thick_s_X0_hasLayer_115 : GoodIn u_s_X11_thick (wsV RX11 115 RX0 yX0_hasLayer u_s_X0_hasLayer) := z_gV (z_gr _ [4, 5, 6, 7] rfl (by decide +kernel)) (fun w h => ⟨z_mc (z_mr (z_mr (z_mr (z_ml h)))), gd_s_X0_hasLayer w h⟩)
set_option maxHeartbeats 4000000 in
set_option maxRecDepth 100000 in
theorem s_X11_thick (l : Launch) (dC : Nat → ClassId) (dI : Nat → Nat → Nat) (sz : Nat) (h0 : Nat) (p1 : Int32) (p2 : Int32) (p3 : Int32) (h0_0 : Value) (hbk : Nat) (h0_2 : Value) (hg : Nat) (h0_4 : Value) (h0_5 : Value) (h0_6 : Value) (h0_7 : Value) (h0_8 : Value) (h0_9 : Value) (hg_0 : Value) (hg_1 : Value) (hg_2 : Value) (hg_3 : Value) (hg_4 : Value) (hg_5 : Value) (h1 : Nat) (gc : Int32) (hg_8 : Value) (hg_9 : Value) (hg_10 : Value) (hbk_0 : Value) (hbk_1 : Value) (hbk_2 : Value) (hbk_3 : Value) (hbk_4 : Value) (bl : Int32) (ch1 : ClassId) (fh1 : Nat → Int32) (hB_gc : ((0 : Int) ≤ (gc).toInt ∧ (gc).toInt ≤ (10 : Int))) (hB_bl : ((0 : Int) ≤ (bl).toInt ∧ (bl).toInt ≤ (12 : Int))) : Met l yX11_thick u_s_X11_thick ({ frames := 1, cells := 0, slots := 0, locals := 21 }) (va_Pc [.ref h0, .int p1, .int p2, .int p3] (z_C (dC, dI) vwCl [(h0, .inr (11, [h0_0, .ref hbk, h0_2, .ref hg, h0_4, h0_5, h0_6, h0_7, h0_8, h0_9])), (hg, .inr (2, [hg_0, hg_1, hg_2, hg_3, hg_4, hg_5, .ref h1, .int gc, hg_8, hg_9, hg_10])), (hbk, .inr (0, [hbk_0, hbk_1, hbk_2, hbk_3, hbk_4, .int bl])), (h1, .inl (ch1, 120, .inl fh1))] [(ch1, .int)] sz)) (va_Qi (fun (r : Int32) (_ : Unit) => ((0 : Int) ≤ (r).toInt ∧ (r).toInt ≤ (1 : Int))) (fun (_ : Unit) (t : State) => ∃ (g_h1 : Nat → Int32), va_P (dC, dI) vwCl [(h0, .inr (11, [h0_0, .ref hbk, h0_2, .ref hg, h0_4, h0_5, h0_6, h0_7, h0_8, h0_9])), (hg, .inr (2, [hg_0, hg_1, hg_2, hg_3, hg_4, hg_5, .ref h1, .int gc, hg_8, hg_9, hg_10])), (hbk, .inr (0, [hbk_0, hbk_1, hbk_2, hbk_3, hbk_4, .int bl])), (h1, .inl (ch1, 120, .inl g_h1))] t.heap ∧ va_K (dC, dI) vwCl [] t ∧ va_D (va_A [(h0, .inr (11, [h0_0, .ref hbk, h0_2, .ref hg, h0_4, h0_5, h0_6, h0_7, h0_8, h0_9])), (hg, .inr (2, [hg_0, hg_1, hg_2, hg_3, hg_4, hg_5, .ref h1, .int gc, hg_8, hg_9, hg_10])), (hbk, .inr (0, [hbk_0, hbk_1, hbk_2, hbk_3, hbk_4, .int bl])), (h1, .inl (ch1, 120, .inl fh1))] sz) [(h0, .inr (11, [h0_0, .ref hbk, h0_2, .ref hg, h0_4, h0_5, h0_6, h0_7, h0_8, h0_9])), (hg, .inr (2, [hg_0, hg_1, hg_2, hg_3, hg_4, hg_5, .ref h1, .int gc, hg_8, hg_9, hg_10])), (hbk, .inr (0, [hbk_0, hbk_1, hbk_2, hbk_3, hbk_4, .int bl])), (h1, .inl (ch1, 120, .inl g_h1))]) (va_A [(h0, .inr (11, [h0_0, .ref hbk, h0_2, .ref hg, h0_4, h0_5, h0_6, h0_7, h0_8, h0_9])), (hg, .inr (2, [hg_0, hg_1, hg_2, hg_3, hg_4, hg_5, .ref h1, .int gc, hg_8, hg_9, hg_10])), (hbk, .inr (0, [hbk_0, hbk_1, hbk_2, hbk_3, hbk_4, .int bl])), (h1, .inl (ch1, 120, .inl fh1))] sz)) 0 0 (va_A [(h0, .inr (11, [h0_0, .ref hbk, h0_2, .ref hg, h0_4, h0_5, h0_6, h0_7, h0_8, h0_9])), (hg, .inr (2, [hg_0, hg_1, hg_2, hg_3, hg_4, hg_5, .ref h1, .int gc, hg_8, hg_9, hg_10])), (hbk, .inr (0, [hbk_0, hbk_1, hbk_2, hbk_3, hbk_4, .int bl])), (h1, .inl (ch1, 120, .inl fh1))] sz) := by
  refine Met.ofW (cc := cX11_thick) (maxL := 4) (ret := (some .boolean)) (by decide) rfl ?_
  intro p e s m args below meth c s₁ B hml hv
  obtain ⟨rfl, hsz, hP, hK, hD0⟩ := hv
  have hx := B.exec
  have hb := B.bytes
  have hr := B.returns
  have hts := atoms_spec (ws := u_s_X11_thick) B.pre
  have hown : s.vm.findClass RX11 = some m.cls := findClass_of_methodNamed B.named
  have hlocks := B.notSynchronized
  subst hsz
  have hD := hD0.self (sz := s.heap.size)
  generalize hAe : va_A [(h0, .inr (11, [h0_0, .ref hbk, h0_2, .ref hg, h0_4, h0_5, h0_6, h0_7, h0_8, h0_9])), (hg, .inr (2, [hg_0, hg_1, hg_2, hg_3, hg_4, hg_5, .ref h1, .int gc, hg_8, hg_9, hg_10])), (hbk, .inr (0, [hbk_0, hbk_1, hbk_2, hbk_3, hbk_4, .int bl])), (h1, .inl (ch1, 120, .inl fh1))] s.heap.size = A at hD ⊢
  have hA : ∀ q : Nat, s.heap.size ≤ q → A q := fun q h => by rw [← hAe]; exact Or.inr h
  have hS : va_S A s.heap s.heap [] := va_S.rf
  have hP : va_P (dC, dI) vwCl [(h0, .inr (11, [h0_0, .ref hbk, h0_2, .ref hg, h0_4, h0_5, h0_6, h0_7, h0_8, h0_9])), (hg, .inr (2, [hg_0, hg_1, hg_2, hg_3, hg_4, hg_5, .ref h1, .int gc, hg_8, hg_9, hg_10])), (hbk, .inr (0, [hbk_0, hbk_1, hbk_2, hbk_3, hbk_4, .int bl])), (h1, .inl (ch1, 120, .inl fh1))] s.heap := hP
  have w__fieldLink_RX11_35_ShellHeap_ground_LShellHeap_Ground_ := hts (.fieldLink RX11 35 "ShellHeap" "ground" "LShellHeap$Ground;") (z_mc (z_ml z_m0))
  have hiX11 := show ∀ w ∈ u_ws RX11 TX11 10, w ∈ u_s_X11_thick from fun w h => z_mc (z_mr (z_ml h))
  have w__fieldLink_RX11_181_ShellHeap_Ground_columns_I_ := hts (.fieldLink RX11 181 "ShellHeap$Ground" "columns" "I") (z_mc (z_ml z_m1))
  have hiX2 := show ∀ w ∈ u_ws RX2 TX2 11, w ∈ u_s_X11_thick from fun w h => z_mc (z_mr (z_mr (z_ml h)))
  have w__fieldLink_RX11_19_ShellHeap_book_LShellHeap_Book_ := hts (.fieldLink RX11 19 "ShellHeap" "book" "LShellHeap$Book;") (z_mc (z_ml z_m2))
  have w__fieldLink_RX11_184_ShellHeap_Ground_thickness_I_ := hts (.fieldLink RX11 184 "ShellHeap$Ground" "thickness" "[I") (z_mc (z_ml z_m7))
  have krr_p1 := z_rng p1
  have krr_p2 := z_rng p2
  have krr_p3 := z_rng p3
  have hl := lv_entry ([.ref h0, .int p1, .int p2, .int p3]) (n := 4) (Nat.le_of_ble_eq_true rfl)
  rw [lg_entry_eq]
  generalize (lg_sl ([.ref h0, .int p1, .int p2, .int p3]) ++ List.replicate (4 - (lg_sl ([.ref h0, .int p1, .int p2, .int p3])).length) Slot.unset).toArray = ls at hl ⊢
  have hl : lv_has ls 4 [(0, .ref h0), (1, .int p1), (2, .int p2), (3, .int p3)] := hl
  refine lv_iload_n hx hb dX11_thick_0 rfl (lv_at hl 1 rfl) ?_
  refine lv_if_lt (tgt := 37) hx hb dX11_thick_1 (by decide) (fun c_1 => ?_) (fun c_1 => ?_)
  · have k_2 : (p1).toInt < (0 : Int) := z_lt c_1
    refine lv_iconst (v := 0) hx hb dX11_thick_37 (by decide) ?_
    have hP9 := hP
    have hD9 := hD
    have hK9 := hK.sub (tys' := []) [] rfl
    refine W.widen (k := 0) (n := 0) (Nat.le_of_ble_eq_true rfl) (Nat.le_of_ble_eq_true rfl) ?_
    exact W.zret (v := 0) hx hb hr (by rfl) (fun t ht hW => ⟨⟨0, (), rfl, (show ((0 : Int) ≤ (0 : Int) ∧ (0 : Int) ≤ (1 : Int)) by decide), ⟨fh1, by rw [ht]; exact hP9, va_K.moved hW.alike hK9, hD9⟩⟩, hS.F ht⟩) hS.2.2 dX11_thick_38
  · have k_3 : (p1).toInt ≥ (0 : Int) := z_nlt c_1
    refine lv_iload_n hx hb dX11_thick_4 rfl (lv_at hl 1 rfl) ?_
    refine lv_aload_n hx hb dX11_thick_5 rfl (lv_at hl 0 rfl) ?_
    refine va_get (D := (dC, dI)) (ci := 11) (v := .ref hg) (C := RX11) (T := TX11) (N := 10) hx hb hts hiX11 hown hK hP 0 rfl rfl 3 (by decide) w__fieldLink_RX11_35_ShellHeap_ground_LShellHeap_Ground_ (fun _ h9 => h9) rfl dX11_thick_6 ?_
    refine va_get (D := (dC, dI)) (ci := 2) (v := .int gc) (C := RX2) (T := TX2) (N := 11) hx hb hts hiX2 hown hK hP 1 rfl rfl 7 (by decide) w__fieldLink_RX11_181_ShellHeap_Ground_columns_I_ (fun _ h9 => h9) rfl dX11_thick_9 ?_
    refine lv_icmp_ge (tgt := 37) hx hb dX11_thick_12 (by decide) (fun c_4 => ?_) (fun c_4 => ?_)
    · have k_5 : (gc).toInt ≤ (p1).toInt := z_le c_4
      refine lv_iconst (v := 0) hx hb dX11_thick_37 (by decide) ?_
      have hP9 := hP
      have hD9 := hD
      have hK9 := hK.sub (tys' := []) [] rfl
      refine W.widen (k := 0) (n := 0) (Nat.le_of_ble_eq_true rfl) (Nat.le_of_ble_eq_true rfl) ?_
      exact W.zret (v := 0) hx hb hr (by rfl) (fun t ht hW => ⟨⟨0, (), rfl, (show ((0 : Int) ≤ (0 : Int) ∧ (0 : Int) ≤ (1 : Int)) by decide), ⟨fh1, by rw [ht]; exact hP9, va_K.moved hW.alike hK9, hD9⟩⟩, hS.F ht⟩) hS.2.2 dX11_thick_38
    · have k_6 : (gc).toInt > (p1).toInt := z_nle c_4
      refine lv_aload_n hx hb dX11_thick_15 rfl (lv_at hl 0 rfl) ?_
      refine va_get (D := (dC, dI)) (ci := 11) (v := .ref hbk) (C := RX11) (T := TX11) (N := 10) hx hb hts hiX11 hown hK hP 0 rfl rfl 1 (by decide) w__fieldLink_RX11_19_ShellHeap_book_LShellHeap_Book_ (fun _ h9 => h9) rfl dX11_thick_16 ?_
      refine lv_iload_n hx hb dX11_thick_19 rfl (lv_at hl 2 rfl) ?_
      obtain ⟨hPc, hDc⟩ := z_sub2 (ws' := [(hbk, .inr (0, [hbk_0, hbk_1, hbk_2, hbk_3, hbk_4, .int bl]))]) hP hD [2] (by decide) rfl
      have hKc := hK.sub (tys' := []) [] rfl
      have hFc := va_free (ws := []) (wc := []) (z_D0 _) hS hA [] rfl
      refine va_calli (va_runV (As := [.int p2]) (rest := []) ⟨hx, hb, hml, hown, hts⟩ (s_X0_hasLayer l dC dI s.heap.size hbk p2 hbk_0 hbk_1 hbk_2 hbk_3 hbk_4 bl hB_bl) (cwV 1 hts gw_s_X11_thick_s_X0_hasLayer_115 rfl rfl rfl (by decide +kernel) ⟨Nat.le_of_ble_eq_true rfl, Nat.le_of_ble_eq_true rfl⟩) ⟨z_blind, va_recv hKc hPc (ci := 0) (q0 := 0) rfl rfl, z_pre hPc hKc hDc⟩ rfl rfl hl.1 rfl (lv_room (Nat.le_of_ble_eq_true rfl)) dX11_thick_20 ⟨Nat.le_of_ble_eq_true rfl, Nat.le_of_ble_eq_true rfl⟩) hS (fun q _ h => hFc q h) hFc (fun r_8 u t H_7 locs ht hvm hw_9 hB hz1 hk1 hS => ?_)
      replace hP := z_pure hP hk1
      clear hPc hDc hKc
      rcases hw_9 with ⟨rfl, hw_9⟩ | ⟨rfl, hw_9⟩
      · have hw_9 : (0 ≤ p2.toInt ∧ p2.toInt < bl.toInt) := hw_9
        refine lv_if_eq (tgt := 37) hx hb dX11_thick_23 (by decide) (fun c_10 => absurd c_10 (by decide)) (fun _ => ?_)
        refine lv_iload_n hx hb dX11_thick_26 rfl (lv_at hl 3 rfl) ?_
        refine lv_if_lt (tgt := 37) hx hb dX11_thick_27 (by decide) (fun c_11 => ?_) (fun c_11 => ?_)
        · have k_12 : (p3).toInt < (0 : Int) := z_lt c_11
          refine lv_iconst (v := 0) hx hb dX11_thick_37 (by decide) ?_
          have hP9 := hP
          have hD9 := hD
          have hK9 := hK.sub (tys' := []) [] rfl
          refine W.widen (k := 0) (n := 0) (Nat.le_of_ble_eq_true rfl) (Nat.le_of_ble_eq_true rfl) ?_
          exact W.zret (v := 0) hx hb hr (by rfl) (fun t ht hW => ⟨⟨0, (), rfl, (show ((0 : Int) ≤ (0 : Int) ∧ (0 : Int) ≤ (1 : Int)) by decide), ⟨fh1, by rw [ht]; exact hP9, va_K.moved hW.alike hK9, hD9⟩⟩, hS.F ht⟩) hS.2.2 dX11_thick_38
        · have k_13 : (p3).toInt ≥ (0 : Int) := z_nlt c_11
          refine lv_iload_n hx hb dX11_thick_30 rfl (lv_at hl 3 rfl) ?_
          refine lv_sipush (v := 500) hx hb dX11_thick_31 (by decide) ?_
          refine lv_icmp_le (tgt := 39) hx hb dX11_thick_34 (by decide) (fun c_14 => ?_) (fun c_14 => ?_)
          · have k_15 : (p3).toInt ≤ (500 : Int) := z_le c_14
            refine lv_aload_n hx hb dX11_thick_39 rfl (lv_at hl 0 rfl) ?_
            refine va_get (D := (dC, dI)) (ci := 11) (v := .ref hg) (C := RX11) (T := TX11) (N := 10) hx hb hts hiX11 hown hK hP 0 rfl rfl 3 (by decide) w__fieldLink_RX11_35_ShellHeap_ground_LShellHeap_Ground_ (fun _ h9 => h9) rfl dX11_thick_40 ?_
            refine va_get (D := (dC, dI)) (ci := 2) (v := .ref h1) (C := RX2) (T := TX2) (N := 11) hx hb hts hiX2 hown hK hP 1 rfl rfl 6 (by decide) w__fieldLink_RX11_184_ShellHeap_Ground_thickness_I_ (fun _ h9 => h9) rfl dX11_thick_43 ?_
            refine lv_iload_n hx hb dX11_thick_46 rfl (lv_at hl 1 rfl) ?_
            refine lv_bipush (v := 12) hx hb dX11_thick_47 (by decide) ?_
            refine lv_imul hx hb dX11_thick_49 ?_
            refine lv_topi (fun z_16 ez_16 => ?_)
            have kz_16 : (z_16).toInt = (p1).toInt * (12 : Int) := by rw [ez_16]; exact z_mul (a := (p1).toInt) (b := (12 : Int)) rfl rfl (by omega) (by omega)
            refine lv_iload_n hx hb dX11_thick_50 rfl (lv_at hl 2 rfl) ?_
            refine lv_iadd hx hb dX11_thick_51 ?_
            refine lv_topi (fun z_17 ez_17 => ?_)
            have kz_17 : (z_17).toInt = (z_16).toInt + (p2).toInt := by rw [ez_17]; exact z_add (a := (z_16).toInt) (b := (p2).toInt) rfl rfl (by omega) (by omega)
            refine lv_iload_n hx hb dX11_thick_52 rfl (lv_at hl 3 rfl) ?_
            refine va_iast hx hb hK hP hD hS 3 0 rfl rfl (z_vpin (by omega) (by omega)) dX11_thick_53 (fun H_18 locs hP hD hS => ?_)
            obtain ⟨hP, hD⟩ := z_s_3 hP hD
            generalize (upd fh1 (z_17 : Int32).toNatClampNeg p3) = f_19 at hP hD
            refine lv_iconst (v := 1) hx hb dX11_thick_54 (by decide) ?_
            have hP9 := hP
            have hD9 := hD
            have hK9 := hK.sub (tys' := []) [] rfl
            refine W.widen (k := 0) (n := 0) (Nat.le_of_ble_eq_true rfl) (Nat.le_of_ble_eq_true rfl) ?_
            exact W.zret (v := 1) hx hb hr (by rfl) (fun t ht hW => ⟨⟨1, (), rfl, (show ((0 : Int) ≤ (1 : Int) ∧ (1 : Int) ≤ (1 : Int)) by decide), ⟨f_19, by rw [ht]; exact hP9, va_K.moved hW.alike hK9, hD9⟩⟩, hS.F ht⟩) hS.2.2 dX11_thick_55
          · have k_20 : (p3).toInt > (500 : Int) := z_nle c_14
            refine lv_iconst (v := 0) hx hb dX11_thick_37 (by decide) ?_
            have hP9 := hP
            have hD9 := hD
            have hK9 := hK.sub (tys' := []) [] rfl
            refine W.widen (k := 0) (n := 0) (Nat.le_of_ble_eq_true rfl) (Nat.le_of_ble_eq_true rfl) ?_
            exact W.zret (v := 0) hx hb hr (by rfl) (fun t ht hW => ⟨⟨0, (), rfl, (show ((0 : Int) ≤ (0 : Int) ∧ (0 : Int) ≤ (1 : Int)) by decide), ⟨fh1, by rw [ht]; exact hP9, va_K.moved hW.alike hK9, hD9⟩⟩, hS.F ht⟩) hS.2.2 dX11_thick_38
      · have hw_9 : True := hw_9
        refine lv_if_eq (tgt := 37) hx hb dX11_thick_23 (by decide) (fun _ => ?_) (fun c_21 => absurd (by decide) c_21)
        refine lv_iconst (v := 0) hx hb dX11_thick_37 (by decide) ?_
        have hP9 := hP
        have hD9 := hD
        have hK9 := hK.sub (tys' := []) [] rfl
        refine W.widen (k := 0) (n := 0) (Nat.le_of_ble_eq_true rfl) (Nat.le_of_ble_eq_true rfl) ?_
        exact W.zret (v := 0) hx hb hr (by rfl) (fun t ht hW => ⟨⟨0, (), rfl, (show ((0 : Int) ≤ (0 : Int) ∧ (0 : Int) ≤ (1 : Int)) by decide), ⟨fh1, by rw [ht]; exact hP9, va_K.moved hW.alike hK9, hD9⟩⟩, hS.F ht⟩) hS.2.2 dX11_thick_38
def u_s_X11_kept : List Cond := .code yX11_kept cX11_kept 4 (some .boolean) :: ([.fieldLink RX11 42 "ShellHeap" "pantry" "LShellHeap$Pantry;", .methodLink RX11 203 yX5_hasKind, .instanceMethod yX5_hasKind, .selects RX5 yX5_hasKind yX5_hasKind, .initialized RX5, .fieldLink RX11 206 "ShellHeap$Pantry" "keeps" "[I"] ++ (wsX110 ++ (wsX50 ++ (u_s_X5_hasKind ++ []))))
set_option maxRecDepth 20000 in
theorem gw_s_X11_kept_s_X5_hasKind_203 : GoodIn u_s_X11_kept (wsV RX11 203 RX5 yX5_hasKind u_s_X5_hasKind) := z_gV (z_gr _ [2, 3, 4, 5] rfl (by decide +kernel)) (fun w h => ⟨z_mc (z_mr (z_mr (z_mr (z_ml h)))), gd_s_X5_hasKind w h⟩)
set_option maxHeartbeats 4000000 in
set_option maxRecDepth 100000 in
theorem s_X11_kept (l : Launch) (dC : Nat → ClassId) (dI : Nat → Nat → Nat) (sz : Nat) (h0 : Nat) (p1 : Int32) (p2 : Int32) (p3 : Int32) (h0_0 : Value) (h0_1 : Value) (h0_2 : Value) (h0_3 : Value) (hp9 : Nat) (h0_5 : Value) (h0_6 : Value) (h0_7 : Value) (h0_8 : Value) (h0_9 : Value) (hp9_0 : Value) (hp9_1 : Value) (hp9_2 : Value) (hp9_3 : Value) (h1 : Nat) (hp9_5 : Value) (hp9_6 : Value) (hp9_7 : Value) (hp9_8 : Value) (pk : Int32) (ch1 : ClassId) (fh1 : Nat → Int32) (hB_pk : ((0 : Int) ≤ (pk).toInt ∧ (pk).toInt ≤ (6 : Int))) : Met l yX11_kept u_s_X11_kept ({ frames := 1, cells := 0, slots := 0, locals := 21 }) (va_Pc [.ref h0, .int p1, .int p2, .int p3] (z_C (dC, dI) vwCl [(h0, .inr (11, [h0_0, h0_1, h0_2, h0_3, .ref hp9, h0_5, h0_6, h0_7, h0_8, h0_9])), (hp9, .inr (5, [hp9_0, hp9_1, hp9_2, hp9_3, .ref h1, hp9_5, hp9_6, hp9_7, hp9_8, .int pk])), (h1, .inl (ch1, 24, .inl fh1))] [(ch1, .int)] sz)) (va_Qi (fun (r : Int32) (_ : Unit) => ((0 : Int) ≤ (r).toInt ∧ (r).toInt ≤ (1 : Int))) (fun (_ : Unit) (t : State) => ∃ (g_h1 : Nat → Int32), va_P (dC, dI) vwCl [(h0, .inr (11, [h0_0, h0_1, h0_2, h0_3, .ref hp9, h0_5, h0_6, h0_7, h0_8, h0_9])), (hp9, .inr (5, [hp9_0, hp9_1, hp9_2, hp9_3, .ref h1, hp9_5, hp9_6, hp9_7, hp9_8, .int pk])), (h1, .inl (ch1, 24, .inl g_h1))] t.heap ∧ va_K (dC, dI) vwCl [] t ∧ va_D (va_A [(h0, .inr (11, [h0_0, h0_1, h0_2, h0_3, .ref hp9, h0_5, h0_6, h0_7, h0_8, h0_9])), (hp9, .inr (5, [hp9_0, hp9_1, hp9_2, hp9_3, .ref h1, hp9_5, hp9_6, hp9_7, hp9_8, .int pk])), (h1, .inl (ch1, 24, .inl fh1))] sz) [(h0, .inr (11, [h0_0, h0_1, h0_2, h0_3, .ref hp9, h0_5, h0_6, h0_7, h0_8, h0_9])), (hp9, .inr (5, [hp9_0, hp9_1, hp9_2, hp9_3, .ref h1, hp9_5, hp9_6, hp9_7, hp9_8, .int pk])), (h1, .inl (ch1, 24, .inl g_h1))]) (va_A [(h0, .inr (11, [h0_0, h0_1, h0_2, h0_3, .ref hp9, h0_5, h0_6, h0_7, h0_8, h0_9])), (hp9, .inr (5, [hp9_0, hp9_1, hp9_2, hp9_3, .ref h1, hp9_5, hp9_6, hp9_7, hp9_8, .int pk])), (h1, .inl (ch1, 24, .inl fh1))] sz)) 0 0 (va_A [(h0, .inr (11, [h0_0, h0_1, h0_2, h0_3, .ref hp9, h0_5, h0_6, h0_7, h0_8, h0_9])), (hp9, .inr (5, [hp9_0, hp9_1, hp9_2, hp9_3, .ref h1, hp9_5, hp9_6, hp9_7, hp9_8, .int pk])), (h1, .inl (ch1, 24, .inl fh1))] sz) := by
  refine Met.ofW (cc := cX11_kept) (maxL := 4) (ret := (some .boolean)) (by decide) rfl ?_
  intro p e s m args below meth c s₁ B hml hv
  obtain ⟨rfl, hsz, hP, hK, hD0⟩ := hv
  have hx := B.exec
  have hb := B.bytes
  have hr := B.returns
  have hts := atoms_spec (ws := u_s_X11_kept) B.pre
  have hown : s.vm.findClass RX11 = some m.cls := findClass_of_methodNamed B.named
  have hlocks := B.notSynchronized
  subst hsz
  have hD := hD0.self (sz := s.heap.size)
  generalize hAe : va_A [(h0, .inr (11, [h0_0, h0_1, h0_2, h0_3, .ref hp9, h0_5, h0_6, h0_7, h0_8, h0_9])), (hp9, .inr (5, [hp9_0, hp9_1, hp9_2, hp9_3, .ref h1, hp9_5, hp9_6, hp9_7, hp9_8, .int pk])), (h1, .inl (ch1, 24, .inl fh1))] s.heap.size = A at hD ⊢
  have hA : ∀ q : Nat, s.heap.size ≤ q → A q := fun q h => by rw [← hAe]; exact Or.inr h
  have hS : va_S A s.heap s.heap [] := va_S.rf
  have hP : va_P (dC, dI) vwCl [(h0, .inr (11, [h0_0, h0_1, h0_2, h0_3, .ref hp9, h0_5, h0_6, h0_7, h0_8, h0_9])), (hp9, .inr (5, [hp9_0, hp9_1, hp9_2, hp9_3, .ref h1, hp9_5, hp9_6, hp9_7, hp9_8, .int pk])), (h1, .inl (ch1, 24, .inl fh1))] s.heap := hP
  have w__fieldLink_RX11_42_ShellHeap_pantry_LShellHeap_Pantry_ := hts (.fieldLink RX11 42 "ShellHeap" "pantry" "LShellHeap$Pantry;") (z_mc (z_ml z_m0))
  have hiX11 := show ∀ w ∈ u_ws RX11 TX11 10, w ∈ u_s_X11_kept from fun w h => z_mc (z_mr (z_ml h))
  have w__fieldLink_RX11_206_ShellHeap_Pantry_keeps_I_ := hts (.fieldLink RX11 206 "ShellHeap$Pantry" "keeps" "[I") (z_mc (z_ml z_m5))
  have hiX5 := show ∀ w ∈ u_ws RX5 TX5 10, w ∈ u_s_X11_kept from fun w h => z_mc (z_mr (z_mr (z_ml h)))
  have krr_p1 := z_rng p1
  have krr_p2 := z_rng p2
  have krr_p3 := z_rng p3
  have hl := lv_entry ([.ref h0, .int p1, .int p2, .int p3]) (n := 4) (Nat.le_of_ble_eq_true rfl)
  rw [lg_entry_eq]
  generalize (lg_sl ([.ref h0, .int p1, .int p2, .int p3]) ++ List.replicate (4 - (lg_sl ([.ref h0, .int p1, .int p2, .int p3])).length) Slot.unset).toArray = ls at hl ⊢
  have hl : lv_has ls 4 [(0, .ref h0), (1, .int p1), (2, .int p2), (3, .int p3)] := hl
  refine lv_aload_n hx hb dX11_kept_0 rfl (lv_at hl 0 rfl) ?_
  refine va_get (D := (dC, dI)) (ci := 11) (v := .ref hp9) (C := RX11) (T := TX11) (N := 10) hx hb hts hiX11 hown hK hP 0 rfl rfl 4 (by decide) w__fieldLink_RX11_42_ShellHeap_pantry_LShellHeap_Pantry_ (fun _ h9 => h9) rfl dX11_kept_1 ?_
  refine lv_iload_n hx hb dX11_kept_4 rfl (lv_at hl 1 rfl) ?_
  obtain ⟨hPc, hDc⟩ := z_sub2 (ws' := [(hp9, .inr (5, [hp9_0, hp9_1, hp9_2, hp9_3, .ref h1, hp9_5, hp9_6, hp9_7, hp9_8, .int pk]))]) hP hD [1] (by decide) rfl
  have hKc := hK.sub (tys' := []) [] rfl
  have hFc := va_free (ws := []) (wc := []) (z_D0 _) hS hA [] rfl
  refine va_calli (va_runV (As := [.int p1]) (rest := []) ⟨hx, hb, hml, hown, hts⟩ (s_X5_hasKind l dC dI s.heap.size hp9 p1 hp9_0 hp9_1 hp9_2 hp9_3 (.ref h1) hp9_5 hp9_6 hp9_7 hp9_8 pk hB_pk) (cwV 1 hts gw_s_X11_kept_s_X5_hasKind_203 rfl rfl rfl (by decide +kernel) ⟨Nat.le_of_ble_eq_true rfl, Nat.le_of_ble_eq_true rfl⟩) ⟨z_blind, va_recv hKc hPc (ci := 5) (q0 := 0) rfl rfl, z_pre hPc hKc hDc⟩ rfl rfl hl.1 rfl (lv_room (Nat.le_of_ble_eq_true rfl)) dX11_kept_5 ⟨Nat.le_of_ble_eq_true rfl, Nat.le_of_ble_eq_true rfl⟩) hS (fun q _ h => hFc q h) hFc (fun r_2 u t H_1 locs ht hvm hw_3 hB hz1 hk1 hS => ?_)
  replace hP := z_pure hP hk1
  clear hPc hDc hKc
  rcases hw_3 with ⟨rfl, hw_3⟩ | ⟨rfl, hw_3⟩
  · have hw_3 : (0 ≤ p1.toInt ∧ p1.toInt < pk.toInt) := hw_3
    refine lv_if_eq (tgt := 31) hx hb dX11_kept_8 (by decide) (fun c_4 => absurd c_4 (by decide)) (fun _ => ?_)
    refine lv_iload_n hx hb dX11_kept_11 rfl (lv_at hl 2 rfl) ?_
    refine lv_if_lt (tgt := 31) hx hb dX11_kept_12 (by decide) (fun c_5 => ?_) (fun c_5 => ?_)
    · have k_6 : (p2).toInt < (0 : Int) := z_lt c_5
      refine lv_iconst (v := 0) hx hb dX11_kept_31 (by decide) ?_
      have hP9 := hP
      have hD9 := hD
      have hK9 := hK.sub (tys' := []) [] rfl
      refine W.widen (k := 0) (n := 0) (Nat.le_of_ble_eq_true rfl) (Nat.le_of_ble_eq_true rfl) ?_
      exact W.zret (v := 0) hx hb hr (by rfl) (fun t ht hW => ⟨⟨0, (), rfl, (show ((0 : Int) ≤ (0 : Int) ∧ (0 : Int) ≤ (1 : Int)) by decide), ⟨fh1, by rw [ht]; exact hP9, va_K.moved hW.alike hK9, hD9⟩⟩, hS.F ht⟩) hS.2.2 dX11_kept_32
    · have k_7 : (p2).toInt ≥ (0 : Int) := z_nlt c_5
      refine lv_iload_n hx hb dX11_kept_15 rfl (lv_at hl 2 rfl) ?_
      refine lv_iconst (v := 4) hx hb dX11_kept_16 (by decide) ?_
      refine lv_icmp_ge (tgt := 31) hx hb dX11_kept_17 (by decide) (fun c_8 => ?_) (fun c_8 => ?_)
      · have k_9 : (4 : Int) ≤ (p2).toInt := z_le c_8
        refine lv_iconst (v := 0) hx hb dX11_kept_31 (by decide) ?_
        have hP9 := hP
        have hD9 := hD
        have hK9 := hK.sub (tys' := []) [] rfl
        refine W.widen (k := 0) (n := 0) (Nat.le_of_ble_eq_true rfl) (Nat.le_of_ble_eq_true rfl) ?_
        exact W.zret (v := 0) hx hb hr (by rfl) (fun t ht hW => ⟨⟨0, (), rfl, (show ((0 : Int) ≤ (0 : Int) ∧ (0 : Int) ≤ (1 : Int)) by decide), ⟨fh1, by rw [ht]; exact hP9, va_K.moved hW.alike hK9, hD9⟩⟩, hS.F ht⟩) hS.2.2 dX11_kept_32
      · have k_10 : (4 : Int) > (p2).toInt := z_nle c_8
        refine lv_iload_n hx hb dX11_kept_20 rfl (lv_at hl 3 rfl) ?_
        refine lv_iconst (v := 1) hx hb dX11_kept_21 (by decide) ?_
        refine lv_icmp_lt (tgt := 31) hx hb dX11_kept_22 (by decide) (fun c_11 => ?_) (fun c_11 => ?_)
        · have k_12 : (p3).toInt < (1 : Int) := z_lt c_11
          refine lv_iconst (v := 0) hx hb dX11_kept_31 (by decide) ?_
          have hP9 := hP
          have hD9 := hD
          have hK9 := hK.sub (tys' := []) [] rfl
          refine W.widen (k := 0) (n := 0) (Nat.le_of_ble_eq_true rfl) (Nat.le_of_ble_eq_true rfl) ?_
          exact W.zret (v := 0) hx hb hr (by rfl) (fun t ht hW => ⟨⟨0, (), rfl, (show ((0 : Int) ≤ (0 : Int) ∧ (0 : Int) ≤ (1 : Int)) by decide), ⟨fh1, by rw [ht]; exact hP9, va_K.moved hW.alike hK9, hD9⟩⟩, hS.F ht⟩) hS.2.2 dX11_kept_32
        · have k_13 : (p3).toInt ≥ (1 : Int) := z_nlt c_11
          refine lv_iload_n hx hb dX11_kept_25 rfl (lv_at hl 3 rfl) ?_
          refine lv_bipush (v := 16) hx hb dX11_kept_26 (by decide) ?_
          refine lv_icmp_le (tgt := 33) hx hb dX11_kept_28 (by decide) (fun c_14 => ?_) (fun c_14 => ?_)
          · have k_15 : (p3).toInt ≤ (16 : Int) := z_le c_14
            refine lv_aload_n hx hb dX11_kept_33 rfl (lv_at hl 0 rfl) ?_
            refine va_get (D := (dC, dI)) (ci := 11) (v := .ref hp9) (C := RX11) (T := TX11) (N := 10) hx hb hts hiX11 hown hK hP 0 rfl rfl 4 (by decide) w__fieldLink_RX11_42_ShellHeap_pantry_LShellHeap_Pantry_ (fun _ h9 => h9) rfl dX11_kept_34 ?_
            refine va_get (D := (dC, dI)) (ci := 5) (v := .ref h1) (C := RX5) (T := TX5) (N := 10) hx hb hts hiX5 hown hK hP 1 rfl rfl 4 (by decide) w__fieldLink_RX11_206_ShellHeap_Pantry_keeps_I_ (fun _ h9 => h9) rfl dX11_kept_37 ?_
            refine lv_iload_n hx hb dX11_kept_40 rfl (lv_at hl 1 rfl) ?_
            refine lv_iconst (v := 4) hx hb dX11_kept_41 (by decide) ?_
            refine lv_imul hx hb dX11_kept_42 ?_
            refine lv_topi (fun z_16 ez_16 => ?_)
            have kz_16 : (z_16).toInt = (p1).toInt * (4 : Int) := by rw [ez_16]; exact z_mul (a := (p1).toInt) (b := (4 : Int)) rfl rfl (by omega) (by omega)
            refine lv_iload_n hx hb dX11_kept_43 rfl (lv_at hl 2 rfl) ?_
            refine lv_iadd hx hb dX11_kept_44 ?_
            refine lv_topi (fun z_17 ez_17 => ?_)
            have kz_17 : (z_17).toInt = (z_16).toInt + (p2).toInt := by rw [ez_17]; exact z_add (a := (z_16).toInt) (b := (p2).toInt) rfl rfl (by omega) (by omega)
            refine lv_iload_n hx hb dX11_kept_45 rfl (lv_at hl 3 rfl) ?_
            refine va_iast hx hb hK hP hD hS 2 0 rfl rfl (z_vpin (by omega) (by omega)) dX11_kept_46 (fun H_18 locs hP hD hS => ?_)
            obtain ⟨hP, hD⟩ := z_s_2 hP hD
            generalize (upd fh1 (z_17 : Int32).toNatClampNeg p3) = f_19 at hP hD
            refine lv_iconst (v := 1) hx hb dX11_kept_47 (by decide) ?_
            have hP9 := hP
            have hD9 := hD
            have hK9 := hK.sub (tys' := []) [] rfl
            refine W.widen (k := 0) (n := 0) (Nat.le_of_ble_eq_true rfl) (Nat.le_of_ble_eq_true rfl) ?_
            exact W.zret (v := 1) hx hb hr (by rfl) (fun t ht hW => ⟨⟨1, (), rfl, (show ((0 : Int) ≤ (1 : Int) ∧ (1 : Int) ≤ (1 : Int)) by decide), ⟨f_19, by rw [ht]; exact hP9, va_K.moved hW.alike hK9, hD9⟩⟩, hS.F ht⟩) hS.2.2 dX11_kept_48
          · have k_20 : (p3).toInt > (16 : Int) := z_nle c_14
            refine lv_iconst (v := 0) hx hb dX11_kept_31 (by decide) ?_
            have hP9 := hP
            have hD9 := hD
            have hK9 := hK.sub (tys' := []) [] rfl
            refine W.widen (k := 0) (n := 0) (Nat.le_of_ble_eq_true rfl) (Nat.le_of_ble_eq_true rfl) ?_
            exact W.zret (v := 0) hx hb hr (by rfl) (fun t ht hW => ⟨⟨0, (), rfl, (show ((0 : Int) ≤ (0 : Int) ∧ (0 : Int) ≤ (1 : Int)) by decide), ⟨fh1, by rw [ht]; exact hP9, va_K.moved hW.alike hK9, hD9⟩⟩, hS.F ht⟩) hS.2.2 dX11_kept_32
  · have hw_3 : True := hw_3
    refine lv_if_eq (tgt := 31) hx hb dX11_kept_8 (by decide) (fun _ => ?_) (fun c_21 => absurd (by decide) c_21)
    refine lv_iconst (v := 0) hx hb dX11_kept_31 (by decide) ?_
    have hP9 := hP
    have hD9 := hD
    have hK9 := hK.sub (tys' := []) [] rfl
    refine W.widen (k := 0) (n := 0) (Nat.le_of_ble_eq_true rfl) (Nat.le_of_ble_eq_true rfl) ?_
    exact W.zret (v := 0) hx hb hr (by rfl) (fun t ht hW => ⟨⟨0, (), rfl, (show ((0 : Int) ≤ (0 : Int) ∧ (0 : Int) ≤ (1 : Int)) by decide), ⟨fh1, by rw [ht]; exact hP9, va_K.moved hW.alike hK9, hD9⟩⟩, hS.F ht⟩) hS.2.2 dX11_kept_32
def u_s_X11_reads : List Cond := .code yX11_reads cX11_reads 7 (some .boolean) :: ([.methodLink RX11 234 yX6_has, .static yX6_has, .initialized RX6, .methodLink RX11 237 yX6_areWithin, .static yX6_areWithin, .fieldLink RX11 49 "ShellHeap" "readers" "LShellHeap$Readers;", .methodLink RX11 241 yX6_setRow, .instanceMethod yX6_setRow, .selects RX6 yX6_setRow yX6_setRow] ++ (wsX110 ++ (u_s_X6_has ++ (u_s_X6_areWithin ++ (u_s_X6_setRow ++ [])))))
set_option maxRecDepth 20000 in
theorem gw_s_X11_reads_s_X6_has_234 : GoodIn u_s_X11_reads (va_wsS RX11 234 yX6_has u_s_X6_has) := z_gS (z_gr _ [1, 2, 3] rfl (by decide +kernel)) (fun w h => ⟨z_mc (z_mr (z_mr (z_ml h))), gd_s_X6_has w h⟩)
set_option maxRecDepth 20000 in
theorem gw_s_X11_reads_s_X6_areWithin_237 : GoodIn u_s_X11_reads (va_wsS RX11 237 yX6_areWithin u_s_X6_areWithin) := z_gS (z_gr _ [4, 5, 3] rfl (by decide +kernel)) (fun w h => ⟨z_mc (z_mr (z_mr (z_mr (z_ml h)))), gd_s_X6_areWithin w h⟩)
set_option maxRecDepth 20000 in
theorem gw_s_X11_reads_s_X6_setRow_241 : GoodIn u_s_X11_reads (wsV RX11 241 RX6 yX6_setRow u_s_X6_setRow) := z_gV (z_gr _ [7, 8, 9, 3] rfl (by decide +kernel)) (fun w h => ⟨z_mc (z_mr (z_mr (z_mr (z_mr (z_ml h))))), gd_s_X6_setRow w h⟩)
set_option maxHeartbeats 4000000 in
set_option maxRecDepth 100000 in
theorem s_X11_reads (l : Launch) (dC : Nat → ClassId) (dI : Nat → Nat → Nat) (sz : Nat) (h0 : Nat) (p1 : Int32) (p2 : Int32) (p3 : Int32) (p4 : Int32) (p5 : Int32) (p6 : Int32) (h0_0 : Value) (h0_1 : Value) (h0_2 : Value) (h0_3 : Value) (h0_4 : Value) (hrd : Nat) (h0_6 : Value) (h0_7 : Value) (h0_8 : Value) (h0_9 : Value) (h1 : Nat) (hrd_1 : Value) (hrd_2 : Value) (hrd_3 : Value) (hrd_4 : Value) (hrd_5 : Value) (hrd_6 : Value) (ch1 : ClassId) (fh1 : Nat → Int32) : Met l yX11_reads u_s_X11_reads ({ frames := 1, cells := 0, slots := 0, locals := 27 }) (va_Pc [.ref h0, .int p1, .int p2, .int p3, .int p4, .int p5, .int p6] (z_C (dC, dI) vwCl [(h0, .inr (11, [h0_0, h0_1, h0_2, h0_3, h0_4, .ref hrd, h0_6, h0_7, h0_8, h0_9])), (hrd, .inr (6, [.ref h1, hrd_1, hrd_2, hrd_3, hrd_4, hrd_5, hrd_6])), (h1, .inl (ch1, 48, .inl fh1))] [(ch1, .int)] sz)) (va_Qi (fun (r : Int32) (_ : Unit) => ((0 : Int) ≤ (r).toInt ∧ (r).toInt ≤ (1 : Int))) (fun (_ : Unit) (t : State) => ∃ (g_h1 : Nat → Int32), va_P (dC, dI) vwCl [(h0, .inr (11, [h0_0, h0_1, h0_2, h0_3, h0_4, .ref hrd, h0_6, h0_7, h0_8, h0_9])), (hrd, .inr (6, [.ref h1, hrd_1, hrd_2, hrd_3, hrd_4, hrd_5, hrd_6])), (h1, .inl (ch1, 48, .inl g_h1))] t.heap ∧ va_K (dC, dI) vwCl [] t ∧ va_D (va_A [(h0, .inr (11, [h0_0, h0_1, h0_2, h0_3, h0_4, .ref hrd, h0_6, h0_7, h0_8, h0_9])), (hrd, .inr (6, [.ref h1, hrd_1, hrd_2, hrd_3, hrd_4, hrd_5, hrd_6])), (h1, .inl (ch1, 48, .inl fh1))] sz) [(h0, .inr (11, [h0_0, h0_1, h0_2, h0_3, h0_4, .ref hrd, h0_6, h0_7, h0_8, h0_9])), (hrd, .inr (6, [.ref h1, hrd_1, hrd_2, hrd_3, hrd_4, hrd_5, hrd_6])), (h1, .inl (ch1, 48, .inl g_h1))]) (va_A [(h0, .inr (11, [h0_0, h0_1, h0_2, h0_3, h0_4, .ref hrd, h0_6, h0_7, h0_8, h0_9])), (hrd, .inr (6, [.ref h1, hrd_1, hrd_2, hrd_3, hrd_4, hrd_5, hrd_6])), (h1, .inl (ch1, 48, .inl fh1))] sz)) 0 0 (va_A [(h0, .inr (11, [h0_0, h0_1, h0_2, h0_3, h0_4, .ref hrd, h0_6, h0_7, h0_8, h0_9])), (hrd, .inr (6, [.ref h1, hrd_1, hrd_2, hrd_3, hrd_4, hrd_5, hrd_6])), (h1, .inl (ch1, 48, .inl fh1))] sz) := by
  refine Met.ofW (cc := cX11_reads) (maxL := 7) (ret := (some .boolean)) (by decide) rfl ?_
  intro p e s m args below meth c s₁ B hml hv
  obtain ⟨rfl, hsz, hP, hK, hD0⟩ := hv
  have hx := B.exec
  have hb := B.bytes
  have hr := B.returns
  have hts := atoms_spec (ws := u_s_X11_reads) B.pre
  have hown : s.vm.findClass RX11 = some m.cls := findClass_of_methodNamed B.named
  have hlocks := B.notSynchronized
  subst hsz
  have hD := hD0.self (sz := s.heap.size)
  generalize hAe : va_A [(h0, .inr (11, [h0_0, h0_1, h0_2, h0_3, h0_4, .ref hrd, h0_6, h0_7, h0_8, h0_9])), (hrd, .inr (6, [.ref h1, hrd_1, hrd_2, hrd_3, hrd_4, hrd_5, hrd_6])), (h1, .inl (ch1, 48, .inl fh1))] s.heap.size = A at hD ⊢
  have hA : ∀ q : Nat, s.heap.size ≤ q → A q := fun q h => by rw [← hAe]; exact Or.inr h
  have hS : va_S A s.heap s.heap [] := va_S.rf
  have hP : va_P (dC, dI) vwCl [(h0, .inr (11, [h0_0, h0_1, h0_2, h0_3, h0_4, .ref hrd, h0_6, h0_7, h0_8, h0_9])), (hrd, .inr (6, [.ref h1, hrd_1, hrd_2, hrd_3, hrd_4, hrd_5, hrd_6])), (h1, .inl (ch1, 48, .inl fh1))] s.heap := hP
  have w__fieldLink_RX11_49_ShellHeap_readers_LShellHeap_Readers_ := hts (.fieldLink RX11 49 "ShellHeap" "readers" "LShellHeap$Readers;") (z_mc (z_ml z_m5))
  have hiX11 := show ∀ w ∈ u_ws RX11 TX11 10, w ∈ u_s_X11_reads from fun w h => z_mc (z_mr (z_ml h))
  have krr_p1 := z_rng p1
  have krr_p2 := z_rng p2
  have krr_p3 := z_rng p3
  have krr_p4 := z_rng p4
  have krr_p5 := z_rng p5
  have krr_p6 := z_rng p6
  have hl := lv_entry ([.ref h0, .int p1, .int p2, .int p3, .int p4, .int p5, .int p6]) (n := 7) (Nat.le_of_ble_eq_true rfl)
  rw [lg_entry_eq]
  generalize (lg_sl ([.ref h0, .int p1, .int p2, .int p3, .int p4, .int p5, .int p6]) ++ List.replicate (7 - (lg_sl ([.ref h0, .int p1, .int p2, .int p3, .int p4, .int p5, .int p6])).length) Slot.unset).toArray = ls at hl ⊢
  have hl : lv_has ls 7 [(0, .ref h0), (1, .int p1), (2, .int p2), (3, .int p3), (4, .int p4), (5, .int p5), (6, .int p6)] := hl
  refine lv_iload_n hx hb dX11_reads_0 rfl (lv_at hl 1 rfl) ?_
  obtain ⟨hPc, hDc⟩ := z_sub2 (ws' := []) hP hD [] (by decide) rfl
  have hKc := hK.sub (tys' := []) [] rfl
  have hFc := va_free (ws := []) (wc := []) (z_D0 _) hS hA [] rfl
  refine va_calli (va_runS (As := [.int p1]) (rest := []) ⟨hx, hb, hml, hown, hts⟩ (s_X6_has l dC dI s.heap.size p1) (va_cwS 1 hts gw_s_X11_reads_s_X6_has_234 rfl rfl rfl (by decide +kernel) ⟨Nat.le_of_ble_eq_true rfl, Nat.le_of_ble_eq_true rfl⟩) ⟨z_blind, z_pre hPc hKc hDc⟩ rfl rfl hl.1 rfl (lv_room (Nat.le_of_ble_eq_true rfl)) dX11_reads_1 ⟨Nat.le_of_ble_eq_true rfl, Nat.le_of_ble_eq_true rfl⟩) hS (fun q _ h => hFc q h) hFc (fun r_2 u t H_1 locs ht hvm hw_3 hB hz1 hk1 hS => ?_)
  replace hP := z_pure hP hk1
  clear hPc hDc hKc
  rcases hw_3 with ⟨rfl, hw_3⟩ | ⟨rfl, hw_3⟩
  · have hw_3 : (0 ≤ p1.toInt ∧ p1.toInt < 3) := hw_3
    refine lv_if_eq (tgt := 16) hx hb dX11_reads_4 (by decide) (fun c_4 => absurd c_4 (by decide)) (fun _ => ?_)
    refine lv_iload_n hx hb dX11_reads_7 rfl (lv_at hl 2 rfl) ?_
    refine lv_if_lt (tgt := 16) hx hb dX11_reads_8 (by decide) (fun c_5 => ?_) (fun c_5 => ?_)
    · have k_6 : (p2).toInt < (0 : Int) := z_lt c_5
      refine lv_iconst (v := 0) hx hb dX11_reads_16 (by decide) ?_
      have hP9 := hP
      have hD9 := hD
      have hK9 := hK.sub (tys' := []) [] rfl
      refine W.widen (k := 0) (n := 0) (Nat.le_of_ble_eq_true rfl) (Nat.le_of_ble_eq_true rfl) ?_
      exact W.zret (v := 0) hx hb hr (by rfl) (fun t ht hW => ⟨⟨0, (), rfl, (show ((0 : Int) ≤ (0 : Int) ∧ (0 : Int) ≤ (1 : Int)) by decide), ⟨fh1, by rw [ht]; exact hP9, va_K.moved hW.alike hK9, hD9⟩⟩, hS.F ht⟩) hS.2.2 dX11_reads_17
    · have k_7 : (p2).toInt ≥ (0 : Int) := z_nlt c_5
      refine lv_iload_n hx hb dX11_reads_11 rfl (lv_at hl 2 rfl) ?_
      refine lv_iconst (v := 4) hx hb dX11_reads_12 (by decide) ?_
      refine lv_icmp_lt (tgt := 18) hx hb dX11_reads_13 (by decide) (fun c_8 => ?_) (fun c_8 => ?_)
      · have k_9 : (p2).toInt < (4 : Int) := z_lt c_8
        refine lv_bipush (v := 16) hx hb dX11_reads_18 (by decide) ?_
        refine lv_iload_n hx hb dX11_reads_20 rfl (lv_at hl 3 rfl) ?_
        refine lv_iload hx hb dX11_reads_21 (lv_at hl 4 rfl) ?_
        refine lv_iload hx hb dX11_reads_23 (lv_at hl 5 rfl) ?_
        refine lv_iload hx hb dX11_reads_25 (lv_at hl 6 rfl) ?_
        obtain ⟨hPc, hDc⟩ := z_sub2 (ws' := []) hP hD [] (by decide) rfl
        have hKc := hK.sub (tys' := []) [] rfl
        have hFc := va_free (ws := []) (wc := []) (z_D0 _) hS hA [] rfl
        refine va_calli (va_runS (As := [.int 16, .int p3, .int p4, .int p5, .int p6]) (rest := []) ⟨hx, hb, hml, hown, hts⟩ (s_X6_areWithin l dC dI H_1.size 16 p3 p4 p5 p6) (va_cwS 5 hts gw_s_X11_reads_s_X6_areWithin_237 rfl rfl rfl (by decide +kernel) ⟨Nat.le_of_ble_eq_true rfl, Nat.le_of_ble_eq_true rfl⟩) ⟨z_blind, z_pre hPc hKc hDc⟩ rfl rfl hl.1 rfl (lv_room (Nat.le_of_ble_eq_true rfl)) dX11_reads_27 ⟨Nat.le_of_ble_eq_true rfl, Nat.le_of_ble_eq_true rfl⟩) hS (fun q _ h => hFc q h) hFc (fun r_11 u t H_10 locs ht hvm hw_12 hB hz1 hk1 hS => ?_)
        replace hP := z_pure hP hk1
        clear hPc hDc hKc
        rcases hw_12 with ⟨rfl, hw_12⟩ | ⟨rfl, hw_12⟩
        · have hw_12 : (0 ≤ p3.toInt ∧ p3.toInt ≤ (16 : Int) ∧ 0 ≤ p4.toInt ∧ p4.toInt ≤ (16 : Int) ∧ 0 ≤ p5.toInt ∧ p5.toInt ≤ (16 : Int) ∧ 0 ≤ p6.toInt ∧ p6.toInt ≤ (16 : Int)) := hw_12
          refine lv_if_eq (tgt := 48) hx hb dX11_reads_30 (by decide) (fun c_13 => absurd c_13 (by decide)) (fun _ => ?_)
          refine lv_iload_n hx hb dX11_reads_33 rfl (lv_at hl 3 rfl) ?_
          refine lv_iload hx hb dX11_reads_34 (lv_at hl 4 rfl) ?_
          refine lv_iadd hx hb dX11_reads_36 ?_
          refine lv_topi (fun z_14 ez_14 => ?_)
          refine lv_iload hx hb dX11_reads_37 (lv_at hl 5 rfl) ?_
          refine lv_iadd hx hb dX11_reads_39 ?_
          refine lv_topi (fun z_15 ez_15 => ?_)
          refine lv_iload hx hb dX11_reads_40 (lv_at hl 6 rfl) ?_
          refine lv_iadd hx hb dX11_reads_42 ?_
          refine lv_topi (fun z_16 ez_16 => ?_)
          refine lv_bipush (v := 16) hx hb dX11_reads_43 (by decide) ?_
          refine lv_icmp_eq (tgt := 50) hx hb dX11_reads_45 (by decide) (fun c_17 => ?_) (fun c_17 => ?_)
          · have k_18 : (z_16).toInt = (16 : Int) := z_eq c_17
            obtain rfl : z_16 = 16 := z_eq' (show (z_16).toInt = (16 : Int) by omega)
            refine lv_aload_n hx hb dX11_reads_50 rfl (lv_at hl 0 rfl) ?_
            refine va_get (D := (dC, dI)) (ci := 11) (v := .ref hrd) (C := RX11) (T := TX11) (N := 10) hx hb hts hiX11 hown hK hP 0 rfl rfl 5 (by decide) w__fieldLink_RX11_49_ShellHeap_readers_LShellHeap_Readers_ (fun _ h9 => h9) rfl dX11_reads_51 ?_
            refine lv_iload_n hx hb dX11_reads_54 rfl (lv_at hl 1 rfl) ?_
            refine lv_iload_n hx hb dX11_reads_55 rfl (lv_at hl 2 rfl) ?_
            refine lv_iload_n hx hb dX11_reads_56 rfl (lv_at hl 3 rfl) ?_
            refine lv_iload hx hb dX11_reads_57 (lv_at hl 4 rfl) ?_
            refine lv_iload hx hb dX11_reads_59 (lv_at hl 5 rfl) ?_
            refine lv_iload hx hb dX11_reads_61 (lv_at hl 6 rfl) ?_
            obtain ⟨hPc, hDc, hFc⟩ := z_sub3 (ws' := [(hrd, .inr (6, [.ref h1, hrd_1, hrd_2, hrd_3, hrd_4, hrd_5, hrd_6])), (h1, .inl (ch1, 48, .inl fh1))]) hP hD hS hA [1, 2] (by decide) rfl
            have hKc := hK
            refine va_callv (va_runV (As := [.int p1, .int p2, .int p3, .int p4, .int p5, .int p6]) (rest := []) ⟨hx, hb, hml, hown, hts⟩ (s_X6_setRow l dC dI H_10.size hrd p1 p2 p3 p4 p5 p6 h1 hrd_1 hrd_2 hrd_3 hrd_4 hrd_5 hrd_6 ch1 fh1 (by first | omega | decide) (by first | omega | decide)) (cwV 6 hts gw_s_X11_reads_s_X6_setRow_241 rfl rfl rfl (by decide +kernel) ⟨Nat.le_of_ble_eq_true rfl, Nat.le_of_ble_eq_true rfl⟩) ⟨z_blind, va_recv hKc hPc (ci := 6) (q0 := 0) rfl rfl, z_pre hPc hKc hDc⟩ rfl rfl hl.1 rfl (lv_room (Nat.le_of_ble_eq_true rfl)) dX11_reads_63 ⟨Nat.le_of_ble_eq_true rfl, Nat.le_of_ble_eq_true rfl⟩) hS (fun q _ h => hFc q h) hFc (fun u t H_20 locs ht hvm hw_22 hB hz1 hk1 hS => ?_)
            obtain ⟨g_h1_23, hP1, hK1, hD1⟩ := hB
            rw [ht] at hP1
            have hK1 := va_K.moved hvm.symm hK1
            obtain ⟨hP, hD⟩ := z_ap_1 (va_join (wr := [(h0, .inr (11, [h0_0, h0_1, h0_2, h0_3, h0_4, .ref hrd, h0_6, h0_7, h0_8, h0_9]))]) hP hD [1, 2] [0] rfl rfl (by decide) (by decide) hk1 hFc hP1 hD1)
            clear hPc hDc hKc
            refine lv_iconst (v := 1) hx hb dX11_reads_66 (by decide) ?_
            have hP9 := hP
            have hD9 := hD
            have hK9 := hK.sub (tys' := []) [] rfl
            refine W.widen (k := 0) (n := 0) (Nat.le_of_ble_eq_true rfl) (Nat.le_of_ble_eq_true rfl) ?_
            exact W.zret (v := 1) hx hb hr (by rfl) (fun t ht hW => ⟨⟨1, (), rfl, (show ((0 : Int) ≤ (1 : Int) ∧ (1 : Int) ≤ (1 : Int)) by decide), ⟨g_h1_23, by rw [ht]; exact hP9, va_K.moved hW.alike hK9, hD9⟩⟩, hS.F ht⟩) hS.2.2 dX11_reads_67
          · have k_24 : (z_16).toInt ≠ (16 : Int) := z_ne c_17
            refine lv_iconst (v := 0) hx hb dX11_reads_48 (by decide) ?_
            have hP9 := hP
            have hD9 := hD
            have hK9 := hK.sub (tys' := []) [] rfl
            refine W.widen (k := 0) (n := 0) (Nat.le_of_ble_eq_true rfl) (Nat.le_of_ble_eq_true rfl) ?_
            exact W.zret (v := 0) hx hb hr (by rfl) (fun t ht hW => ⟨⟨0, (), rfl, (show ((0 : Int) ≤ (0 : Int) ∧ (0 : Int) ≤ (1 : Int)) by decide), ⟨fh1, by rw [ht]; exact hP9, va_K.moved hW.alike hK9, hD9⟩⟩, hS.F ht⟩) hS.2.2 dX11_reads_49
        · have hw_12 : True := hw_12
          refine lv_if_eq (tgt := 48) hx hb dX11_reads_30 (by decide) (fun _ => ?_) (fun c_25 => absurd (by decide) c_25)
          refine lv_iconst (v := 0) hx hb dX11_reads_48 (by decide) ?_
          have hP9 := hP
          have hD9 := hD
          have hK9 := hK.sub (tys' := []) [] rfl
          refine W.widen (k := 0) (n := 0) (Nat.le_of_ble_eq_true rfl) (Nat.le_of_ble_eq_true rfl) ?_
          exact W.zret (v := 0) hx hb hr (by rfl) (fun t ht hW => ⟨⟨0, (), rfl, (show ((0 : Int) ≤ (0 : Int) ∧ (0 : Int) ≤ (1 : Int)) by decide), ⟨fh1, by rw [ht]; exact hP9, va_K.moved hW.alike hK9, hD9⟩⟩, hS.F ht⟩) hS.2.2 dX11_reads_49
      · have k_26 : (p2).toInt ≥ (4 : Int) := z_nlt c_8
        refine lv_iconst (v := 0) hx hb dX11_reads_16 (by decide) ?_
        have hP9 := hP
        have hD9 := hD
        have hK9 := hK.sub (tys' := []) [] rfl
        refine W.widen (k := 0) (n := 0) (Nat.le_of_ble_eq_true rfl) (Nat.le_of_ble_eq_true rfl) ?_
        exact W.zret (v := 0) hx hb hr (by rfl) (fun t ht hW => ⟨⟨0, (), rfl, (show ((0 : Int) ≤ (0 : Int) ∧ (0 : Int) ≤ (1 : Int)) by decide), ⟨fh1, by rw [ht]; exact hP9, va_K.moved hW.alike hK9, hD9⟩⟩, hS.F ht⟩) hS.2.2 dX11_reads_17
  · have hw_3 : True := hw_3
    refine lv_if_eq (tgt := 16) hx hb dX11_reads_4 (by decide) (fun _ => ?_) (fun c_27 => absurd (by decide) c_27)
    refine lv_iconst (v := 0) hx hb dX11_reads_16 (by decide) ?_
    have hP9 := hP
    have hD9 := hD
    have hK9 := hK.sub (tys' := []) [] rfl
    refine W.widen (k := 0) (n := 0) (Nat.le_of_ble_eq_true rfl) (Nat.le_of_ble_eq_true rfl) ?_
    exact W.zret (v := 0) hx hb hr (by rfl) (fun t ht hW => ⟨⟨0, (), rfl, (show ((0 : Int) ≤ (0 : Int) ∧ (0 : Int) ≤ (1 : Int)) by decide), ⟨fh1, by rw [ht]; exact hP9, va_K.moved hW.alike hK9, hD9⟩⟩, hS.F ht⟩) hS.2.2 dX11_reads_17
def u_s_X11_measure : List Cond := .code yX11_measure cX11_measure 5 (some .int) :: ([.fieldLink RX11 19 "ShellHeap" "book" "LShellHeap$Book;", .methodLink RX11 115 yX0_hasLayer, .instanceMethod yX0_hasLayer, .selects RX0 yX0_hasLayer yX0_hasLayer, .initialized RX0, .fieldLink RX11 56 "ShellHeap" "sizes" "LShellHeap$Sizes;", .methodLink RX11 263 yX9_add, .instanceMethod yX9_add, .selects RX9 yX9_add yX9_add, .initialized RX9] ++ (wsX110 ++ (u_s_X0_hasLayer ++ (u_s_X9_add ++ []))))
set_option maxRecDepth 20000 in
theorem gw_s_X11_measure_s_X0_hasLayer_115 : GoodIn u_s_X11_measure (wsV RX11 115 RX0 yX0_hasLayer u_s_X0_hasLayer) := z_gV (z_gr _ [2, 3, 4, 5] rfl (by decide +kernel)) (fun w h => ⟨z_mc (z_mr (z_mr (z_ml h))), gd_s_X0_hasLayer w h⟩)
set_option maxRecDepth 20000 in
theorem gw_s_X11_measure_s_X9_add_263 : GoodIn u_s_X11_measure (wsV RX11 263 RX9 yX9_add u_s_X9_add) := z_gV (z_gr _ [7, 8, 9, 10] rfl (by decide +kernel)) (fun w h => ⟨z_mc (z_mr (z_mr (z_mr (z_ml h)))), gd_s_X9_add w h⟩)
set_option maxHeartbeats 4000000 in
set_option maxRecDepth 100000 in
theorem s_X11_measure (l : Launch) (dC : Nat → ClassId) (dI : Nat → Nat → Nat) (sz : Nat) (h0 : Nat) (p1 : Int32) (p2 : Int32) (p3 : Int32) (p4 : Int32) (h0_0 : Value) (hbk : Nat) (h0_2 : Value) (h0_3 : Value) (h0_4 : Value) (h0_5 : Value) (hsz9 : Nat) (h0_7 : Value) (h0_8 : Value) (h0_9 : Value) (hbk_0 : Value) (hbk_1 : Value) (hbk_2 : Value) (hbk_3 : Value) (hbk_4 : Value) (bl : Int32) (h1 : Nat) (h2 : Nat) (hsz9_2 : Value) (sm : Int32) (ch1 : ClassId) (fh1 : Nat → Int32) (ch2 : ClassId) (fh2 : Nat → Int32) (hB_bl : ((0 : Int) ≤ (bl).toInt ∧ (bl).toInt ≤ (12 : Int))) (hB_sm : ((0 : Int) ≤ (sm).toInt ∧ (sm).toInt ≤ (200 : Int))) (hI_h2 : ∀ j : Nat, ((0 : Int) ≤ (fh2 j).toInt ∧ (fh2 j).toInt ≤ (99 : Int))) : Met l yX11_measure u_s_X11_measure ({ frames := 1, cells := 0, slots := 0, locals := 24 }) (va_Pc [.ref h0, .int p1, .int p2, .int p3, .int p4] (z_C (dC, dI) vwCl [(h0, .inr (11, [h0_0, .ref hbk, h0_2, h0_3, h0_4, h0_5, .ref hsz9, h0_7, h0_8, h0_9])), (hbk, .inr (0, [hbk_0, hbk_1, hbk_2, hbk_3, hbk_4, .int bl])), (hsz9, .inr (9, [.ref h1, .ref h2, hsz9_2, .int sm])), (h1, .inl (ch1, 200, .inl fh1)), (h2, .inl (ch2, 600, .inl fh2))] [(ch1, .int), (ch2, .int)] sz)) (va_Qi (fun (r : Int32) (_ : Unit) => True) (fun (_ : Unit) (t : State) => ∃ (n_hsz9_measured : Int32), ∃ (g_h1 : Nat → Int32), ∃ (g_h2 : Nat → Int32), ((0 : Int) ≤ (n_hsz9_measured).toInt ∧ (n_hsz9_measured).toInt ≤ (200 : Int)) ∧ (∀ j : Nat, ((0 : Int) ≤ (g_h2 j).toInt ∧ (g_h2 j).toInt ≤ (99 : Int))) ∧ va_P (dC, dI) vwCl [(h0, .inr (11, [h0_0, .ref hbk, h0_2, h0_3, h0_4, h0_5, .ref hsz9, h0_7, h0_8, h0_9])), (hbk, .inr (0, [hbk_0, hbk_1, hbk_2, hbk_3, hbk_4, .int bl])), (hsz9, .inr (9, [.ref h1, .ref h2, hsz9_2, .int n_hsz9_measured])), (h1, .inl (ch1, 200, .inl g_h1)), (h2, .inl (ch2, 600, .inl g_h2))] t.heap ∧ va_K (dC, dI) vwCl [] t ∧ va_D (va_A [(h0, .inr (11, [h0_0, .ref hbk, h0_2, h0_3, h0_4, h0_5, .ref hsz9, h0_7, h0_8, h0_9])), (hbk, .inr (0, [hbk_0, hbk_1, hbk_2, hbk_3, hbk_4, .int bl])), (hsz9, .inr (9, [.ref h1, .ref h2, hsz9_2, .int sm])), (h1, .inl (ch1, 200, .inl fh1)), (h2, .inl (ch2, 600, .inl fh2))] sz) [(h0, .inr (11, [h0_0, .ref hbk, h0_2, h0_3, h0_4, h0_5, .ref hsz9, h0_7, h0_8, h0_9])), (hbk, .inr (0, [hbk_0, hbk_1, hbk_2, hbk_3, hbk_4, .int bl])), (hsz9, .inr (9, [.ref h1, .ref h2, hsz9_2, .int n_hsz9_measured])), (h1, .inl (ch1, 200, .inl g_h1)), (h2, .inl (ch2, 600, .inl g_h2))]) (va_A [(h0, .inr (11, [h0_0, .ref hbk, h0_2, h0_3, h0_4, h0_5, .ref hsz9, h0_7, h0_8, h0_9])), (hbk, .inr (0, [hbk_0, hbk_1, hbk_2, hbk_3, hbk_4, .int bl])), (hsz9, .inr (9, [.ref h1, .ref h2, hsz9_2, .int sm])), (h1, .inl (ch1, 200, .inl fh1)), (h2, .inl (ch2, 600, .inl fh2))] sz)) 0 0 (va_A [(h0, .inr (11, [h0_0, .ref hbk, h0_2, h0_3, h0_4, h0_5, .ref hsz9, h0_7, h0_8, h0_9])), (hbk, .inr (0, [hbk_0, hbk_1, hbk_2, hbk_3, hbk_4, .int bl])), (hsz9, .inr (9, [.ref h1, .ref h2, hsz9_2, .int sm])), (h1, .inl (ch1, 200, .inl fh1)), (h2, .inl (ch2, 600, .inl fh2))] sz) := by
  refine Met.ofW (cc := cX11_measure) (maxL := 5) (ret := (some .int)) (by decide) rfl ?_
  intro p e s m args below meth c s₁ B hml hv
  obtain ⟨rfl, hsz, hP, hK, hD0⟩ := hv
  have hx := B.exec
  have hb := B.bytes
  have hr := B.returns
  have hts := atoms_spec (ws := u_s_X11_measure) B.pre
  have hown : s.vm.findClass RX11 = some m.cls := findClass_of_methodNamed B.named
  have hlocks := B.notSynchronized
  subst hsz
  have hD := hD0.self (sz := s.heap.size)
  generalize hAe : va_A [(h0, .inr (11, [h0_0, .ref hbk, h0_2, h0_3, h0_4, h0_5, .ref hsz9, h0_7, h0_8, h0_9])), (hbk, .inr (0, [hbk_0, hbk_1, hbk_2, hbk_3, hbk_4, .int bl])), (hsz9, .inr (9, [.ref h1, .ref h2, hsz9_2, .int sm])), (h1, .inl (ch1, 200, .inl fh1)), (h2, .inl (ch2, 600, .inl fh2))] s.heap.size = A at hD ⊢
  have hA : ∀ q : Nat, s.heap.size ≤ q → A q := fun q h => by rw [← hAe]; exact Or.inr h
  have hS : va_S A s.heap s.heap [] := va_S.rf
  have hP : va_P (dC, dI) vwCl [(h0, .inr (11, [h0_0, .ref hbk, h0_2, h0_3, h0_4, h0_5, .ref hsz9, h0_7, h0_8, h0_9])), (hbk, .inr (0, [hbk_0, hbk_1, hbk_2, hbk_3, hbk_4, .int bl])), (hsz9, .inr (9, [.ref h1, .ref h2, hsz9_2, .int sm])), (h1, .inl (ch1, 200, .inl fh1)), (h2, .inl (ch2, 600, .inl fh2))] s.heap := hP
  have w__fieldLink_RX11_19_ShellHeap_book_LShellHeap_Book_ := hts (.fieldLink RX11 19 "ShellHeap" "book" "LShellHeap$Book;") (z_mc (z_ml z_m0))
  have hiX11 := show ∀ w ∈ u_ws RX11 TX11 10, w ∈ u_s_X11_measure from fun w h => z_mc (z_mr (z_ml h))
  have w__fieldLink_RX11_56_ShellHeap_sizes_LShellHeap_Sizes_ := hts (.fieldLink RX11 56 "ShellHeap" "sizes" "LShellHeap$Sizes;") (z_mc (z_ml z_m5))
  have krr_p1 := z_rng p1
  have krr_p2 := z_rng p2
  have krr_p3 := z_rng p3
  have krr_p4 := z_rng p4
  have hl := lv_entry ([.ref h0, .int p1, .int p2, .int p3, .int p4]) (n := 5) (Nat.le_of_ble_eq_true rfl)
  rw [lg_entry_eq]
  generalize (lg_sl ([.ref h0, .int p1, .int p2, .int p3, .int p4]) ++ List.replicate (5 - (lg_sl ([.ref h0, .int p1, .int p2, .int p3, .int p4])).length) Slot.unset).toArray = ls at hl ⊢
  have hl : lv_has ls 5 [(0, .ref h0), (1, .int p1), (2, .int p2), (3, .int p3), (4, .int p4)] := hl
  refine lv_aload_n hx hb dX11_measure_0 rfl (lv_at hl 0 rfl) ?_
  refine va_get (D := (dC, dI)) (ci := 11) (v := .ref hbk) (C := RX11) (T := TX11) (N := 10) hx hb hts hiX11 hown hK hP 0 rfl rfl 1 (by decide) w__fieldLink_RX11_19_ShellHeap_book_LShellHeap_Book_ (fun _ h9 => h9) rfl dX11_measure_1 ?_
  refine lv_iload_n hx hb dX11_measure_4 rfl (lv_at hl 1 rfl) ?_
  obtain ⟨hPc, hDc⟩ := z_sub2 (ws' := [(hbk, .inr (0, [hbk_0, hbk_1, hbk_2, hbk_3, hbk_4, .int bl]))]) hP hD [1] (by decide) rfl
  have hKc := hK.sub (tys' := []) [] rfl
  have hFc := va_free (ws := []) (wc := []) (z_D0 _) hS hA [] rfl
  refine va_calli (va_runV (As := [.int p1]) (rest := []) ⟨hx, hb, hml, hown, hts⟩ (s_X0_hasLayer l dC dI s.heap.size hbk p1 hbk_0 hbk_1 hbk_2 hbk_3 hbk_4 bl hB_bl) (cwV 1 hts gw_s_X11_measure_s_X0_hasLayer_115 rfl rfl rfl (by decide +kernel) ⟨Nat.le_of_ble_eq_true rfl, Nat.le_of_ble_eq_true rfl⟩) ⟨z_blind, va_recv hKc hPc (ci := 0) (q0 := 0) rfl rfl, z_pre hPc hKc hDc⟩ rfl rfl hl.1 rfl (lv_room (Nat.le_of_ble_eq_true rfl)) dX11_measure_5 ⟨Nat.le_of_ble_eq_true rfl, Nat.le_of_ble_eq_true rfl⟩) hS (fun q _ h => hFc q h) hFc (fun r_2 u t H_1 locs ht hvm hw_3 hB hz1 hk1 hS => ?_)
  replace hP := z_pure hP hk1
  clear hPc hDc hKc
  rcases hw_3 with ⟨rfl, hw_3⟩ | ⟨rfl, hw_3⟩
  · have hw_3 : (0 ≤ p1.toInt ∧ p1.toInt < bl.toInt) := hw_3
    refine lv_if_eq (tgt := 26) hx hb dX11_measure_8 (by decide) (fun c_4 => absurd c_4 (by decide)) (fun _ => ?_)
    refine lv_aload_n hx hb dX11_measure_11 rfl (lv_at hl 0 rfl) ?_
    refine va_get (D := (dC, dI)) (ci := 11) (v := .ref hsz9) (C := RX11) (T := TX11) (N := 10) hx hb hts hiX11 hown hK hP 0 rfl rfl 6 (by decide) w__fieldLink_RX11_56_ShellHeap_sizes_LShellHeap_Sizes_ (fun _ h9 => h9) rfl dX11_measure_12 ?_
    refine lv_iload_n hx hb dX11_measure_15 rfl (lv_at hl 1 rfl) ?_
    refine lv_iload_n hx hb dX11_measure_16 rfl (lv_at hl 2 rfl) ?_
    refine lv_iload_n hx hb dX11_measure_17 rfl (lv_at hl 3 rfl) ?_
    refine lv_iload hx hb dX11_measure_18 (lv_at hl 4 rfl) ?_
    obtain ⟨hPc, hDc, hFc⟩ := z_sub3 (ws' := [(hsz9, .inr (9, [.ref h1, .ref h2, hsz9_2, .int sm])), (h1, .inl (ch1, 200, .inl fh1)), (h2, .inl (ch2, 600, .inl fh2))]) hP hD hS hA [2, 3, 4] (by decide) rfl
    have hKc := hK
    refine va_calli (va_runV (As := [.int p1, .int p2, .int p3, .int p4]) (rest := []) ⟨hx, hb, hml, hown, hts⟩ (s_X9_add l dC dI H_1.size hsz9 p1 p2 p3 p4 h1 h2 hsz9_2 sm ch1 fh1 ch2 fh2 hB_sm hI_h2) (cwV 4 hts gw_s_X11_measure_s_X9_add_263 rfl rfl rfl (by decide +kernel) ⟨Nat.le_of_ble_eq_true rfl, Nat.le_of_ble_eq_true rfl⟩) ⟨z_blind, va_recv hKc hPc (ci := 9) (q0 := 0) rfl rfl, z_pre hPc hKc hDc⟩ rfl rfl hl.1 rfl (lv_room (Nat.le_of_ble_eq_true rfl)) dX11_measure_20 ⟨Nat.le_of_ble_eq_true rfl, Nat.le_of_ble_eq_true rfl⟩) hS (fun q _ h => hFc q h) hFc (fun r_6 u t H_5 locs ht hvm hw_7 hB hz1 hk1 hS => ?_)
    obtain ⟨n_h0_measured_8, g_h1_9, g_h2_10, hp_11, hp_12, hP1, hK1, hD1⟩ := hB
    rw [ht] at hP1
    have hK1 := va_K.moved hvm.symm hK1
    obtain ⟨hP, hD⟩ := z_ap_2 (va_join (wr := [(h0, .inr (11, [h0_0, .ref hbk, h0_2, h0_3, h0_4, h0_5, .ref hsz9, h0_7, h0_8, h0_9])), (hbk, .inr (0, [hbk_0, hbk_1, hbk_2, hbk_3, hbk_4, .int bl]))]) hP hD [2, 3, 4] [0, 1] rfl rfl (by decide) (by decide) hk1 hFc hP1 hD1)
    clear hPc hDc hKc
    refine lv_goto (tgt := 27) hx hb dX11_measure_23 (by decide) ?_
    have hP9 := hP
    have hD9 := hD
    have hK9 := hK.sub (tys' := []) [] rfl
    refine W.widen (k := 0) (n := 0) (Nat.le_of_ble_eq_true rfl) (Nat.le_of_ble_eq_true rfl) ?_
    exact W.iret (v := r_6) hx hb hr (fun t ht hW => ⟨⟨r_6, (), rfl, trivial, ⟨n_h0_measured_8, g_h1_9, g_h2_10, hp_11, hp_12, by rw [ht]; exact hP9, va_K.moved hW.alike hK9, hD9⟩⟩, hS.F ht⟩) hS.2.2 dX11_measure_27
  · have hw_3 : True := hw_3
    refine lv_if_eq (tgt := 26) hx hb dX11_measure_8 (by decide) (fun _ => ?_) (fun c_13 => absurd (by decide) c_13)
    refine lv_iconst (v := (-1)) hx hb dX11_measure_26 (by decide) ?_
    have hP9 := hP
    have hD9 := hD
    have hK9 := hK.sub (tys' := []) [] rfl
    refine W.widen (k := 0) (n := 0) (Nat.le_of_ble_eq_true rfl) (Nat.le_of_ble_eq_true rfl) ?_
    exact W.iret (v := (-1)) hx hb hr (fun t ht hW => ⟨⟨(-1), (), rfl, trivial, ⟨sm, fh1, fh2, hB_sm, hI_h2, by rw [ht]; exact hP9, va_K.moved hW.alike hK9, hD9⟩⟩, hS.F ht⟩) hS.2.2 dX11_measure_27
def u_s_X11_fault : List Cond := .code yX11_fault cX11_fault 2 (some .int) :: ([.fieldLink RX11 10 "ShellHeap" "tape" "LShellHeap$Tape;", .fieldLink RX11 134 "ShellHeap$Tape" "faultPlace" "I", .fieldLink RX11 131 "ShellHeap$Tape" "faultSort" "I"] ++ (wsX110 ++ (wsX100 ++ [])))
set_option maxHeartbeats 4000000 in
set_option maxRecDepth 100000 in
theorem s_X11_fault (l : Launch) (dC : Nat → ClassId) (dI : Nat → Nat → Nat) (sz : Nat) (h0 : Nat) (p1 : Int32) (h1 : Nat) (h0_1 : Value) (h0_2 : Value) (h0_3 : Value) (h0_4 : Value) (h0_5 : Value) (h0_6 : Value) (h0_7 : Value) (h0_8 : Value) (h0_9 : Value) (h1_0 : Value) (h1_1 : Value) (h1_2 : Value) (h1_3 : Value) (h1_4 : Value) (h1_5 : Value) (h1_6 : Value) (h1_7 : Value) (h1_8 : Value) (tx : Int32) (ty : Int32) : Met l yX11_fault u_s_X11_fault ({ frames := 0, cells := 0, slots := 0, locals := 0 }) (va_Pc [.ref h0, .int p1] (z_C (dC, dI) vwCl [(h0, .inr (11, [.ref h1, h0_1, h0_2, h0_3, h0_4, h0_5, h0_6, h0_7, h0_8, h0_9])), (h1, .inr (10, [h1_0, h1_1, h1_2, h1_3, h1_4, h1_5, h1_6, h1_7, h1_8, .int tx, .int ty]))] [] sz)) (va_Qi (fun (r : Int32) (_ : Unit) => True) (fun (_ : Unit) (_ : State) => True) (va_A [] sz)) 0 0 (va_A [] sz) := by
  refine Met.ofW (cc := cX11_fault) (maxL := 2) (ret := (some .int)) (by decide) rfl ?_
  intro p e s m args below meth c s₁ B hml hv
  obtain ⟨rfl, hsz, hP, hK, hD0⟩ := hv
  have hx := B.exec
  have hb := B.bytes
  have hr := B.returns
  have hts := atoms_spec (ws := u_s_X11_fault) B.pre
  have hown : s.vm.findClass RX11 = some m.cls := findClass_of_methodNamed B.named
  have hlocks := B.notSynchronized
  subst hsz
  have hD := hD0
  generalize hAe : va_A [] s.heap.size = A
  have hA : ∀ q : Nat, s.heap.size ≤ q → A q := fun q h => by rw [← hAe]; exact Or.inr h
  have hS : va_S A s.heap s.heap [] := va_S.rf
  have hP : va_P (dC, dI) vwCl [(h0, .inr (11, [.ref h1, h0_1, h0_2, h0_3, h0_4, h0_5, h0_6, h0_7, h0_8, h0_9])), (h1, .inr (10, [h1_0, h1_1, h1_2, h1_3, h1_4, h1_5, h1_6, h1_7, h1_8, .int tx, .int ty]))] s.heap := hP
  have w__fieldLink_RX11_10_ShellHeap_tape_LShellHeap_Tape_ := hts (.fieldLink RX11 10 "ShellHeap" "tape" "LShellHeap$Tape;") (z_mc (z_ml z_m0))
  have hiX11 := show ∀ w ∈ u_ws RX11 TX11 10, w ∈ u_s_X11_fault from fun w h => z_mc (z_mr (z_ml h))
  have w__fieldLink_RX11_134_ShellHeap_Tape_faultPlace_I_ := hts (.fieldLink RX11 134 "ShellHeap$Tape" "faultPlace" "I") (z_mc (z_ml z_m1))
  have hiX10 := show ∀ w ∈ u_ws RX10 TX10 11, w ∈ u_s_X11_fault from fun w h => z_mc (z_mr (z_mr (z_ml h)))
  have w__fieldLink_RX11_131_ShellHeap_Tape_faultSort_I_ := hts (.fieldLink RX11 131 "ShellHeap$Tape" "faultSort" "I") (z_mc (z_ml z_m2))
  have krr_p1 := z_rng p1
  have hl := lv_entry ([.ref h0, .int p1]) (n := 2) (Nat.le_of_ble_eq_true rfl)
  rw [lg_entry_eq]
  generalize (lg_sl ([.ref h0, .int p1]) ++ List.replicate (2 - (lg_sl ([.ref h0, .int p1])).length) Slot.unset).toArray = ls at hl ⊢
  have hl : lv_has ls 2 [(0, .ref h0), (1, .int p1)] := hl
  refine lv_iload_n hx hb dX11_fault_0 rfl (lv_at hl 1 rfl) ?_
  refine lv_if_ne (tgt := 12) hx hb dX11_fault_1 (by decide) (fun c_1 => ?_) (fun c_1 => ?_)
  · have k_2 : (p1).toInt ≠ (0 : Int) := z_ne c_1
    refine lv_iload_n hx hb dX11_fault_12 rfl (lv_at hl 1 rfl) ?_
    refine lv_iconst (v := 1) hx hb dX11_fault_13 (by decide) ?_
    refine lv_icmp_ne (tgt := 27) hx hb dX11_fault_14 (by decide) (fun c_3 => ?_) (fun c_3 => ?_)
    · have k_4 : (p1).toInt ≠ (1 : Int) := z_ne c_3
      refine lv_iconst (v := (-1)) hx hb dX11_fault_27 (by decide) ?_
      refine W.widen (k := 0) (n := 0) (Nat.le_of_ble_eq_true rfl) (Nat.le_of_ble_eq_true rfl) ?_
      exact W.iret (v := (-1)) hx hb hr (fun t ht hW => ⟨⟨(-1), (), rfl, trivial, trivial⟩, hS.F ht⟩) hS.2.2 dX11_fault_28
    · have k_5 : (p1).toInt = (1 : Int) := z_eq c_3
      obtain rfl : p1 = 1 := z_eq' (show (p1).toInt = (1 : Int) by omega)
      refine lv_aload_n hx hb dX11_fault_17 rfl (lv_at hl 0 rfl) ?_
      refine va_get (D := (dC, dI)) (ci := 11) (v := .ref h1) (C := RX11) (T := TX11) (N := 10) hx hb hts hiX11 hown hK hP 0 rfl rfl 0 (by decide) w__fieldLink_RX11_10_ShellHeap_tape_LShellHeap_Tape_ (fun _ h9 => h9) rfl dX11_fault_18 ?_
      refine va_get (D := (dC, dI)) (ci := 10) (v := .int ty) (C := RX10) (T := TX10) (N := 11) hx hb hts hiX10 hown hK hP 1 rfl rfl 10 (by decide) w__fieldLink_RX11_134_ShellHeap_Tape_faultPlace_I_ (fun _ h9 => h9) rfl dX11_fault_21 ?_
      refine lv_goto (tgt := 28) hx hb dX11_fault_24 (by decide) ?_
      refine W.widen (k := 0) (n := 0) (Nat.le_of_ble_eq_true rfl) (Nat.le_of_ble_eq_true rfl) ?_
      exact W.iret (v := ty) hx hb hr (fun t ht hW => ⟨⟨ty, (), rfl, trivial, trivial⟩, hS.F ht⟩) hS.2.2 dX11_fault_28
  · have k_7 : (p1).toInt = (0 : Int) := z_eq c_1
    obtain rfl : p1 = 0 := z_eq' (show (p1).toInt = (0 : Int) by omega)
    refine lv_aload_n hx hb dX11_fault_4 rfl (lv_at hl 0 rfl) ?_
    refine va_get (D := (dC, dI)) (ci := 11) (v := .ref h1) (C := RX11) (T := TX11) (N := 10) hx hb hts hiX11 hown hK hP 0 rfl rfl 0 (by decide) w__fieldLink_RX11_10_ShellHeap_tape_LShellHeap_Tape_ (fun _ h9 => h9) rfl dX11_fault_5 ?_
    refine va_get (D := (dC, dI)) (ci := 10) (v := .int tx) (C := RX10) (T := TX10) (N := 11) hx hb hts hiX10 hown hK hP 1 rfl rfl 9 (by decide) w__fieldLink_RX11_131_ShellHeap_Tape_faultSort_I_ (fun _ h9 => h9) rfl dX11_fault_8 ?_
    refine W.widen (k := 0) (n := 0) (Nat.le_of_ble_eq_true rfl) (Nat.le_of_ble_eq_true rfl) ?_
    exact W.iret (v := tx) hx hb hr (fun t ht hW => ⟨⟨tx, (), rfl, trivial, trivial⟩, hS.F ht⟩) hS.2.2 dX11_fault_11
