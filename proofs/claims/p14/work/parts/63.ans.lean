theorem z_ii {x y : Int32} (h : x.toInt = y.toInt) : x = y := Int32.toInt_inj.mp h
def v_layA (x : Int32) : Int32 := if x.toInt < 12 then x else (-1)
def v_layN (x : Int32) : Int32 := if x.toInt < 12 then x + 1 else x
def v_hpW (w a b : Int32) : Int32 := if (2 ≤ a.toInt ∧ a.toInt ≤ 12 ∧ 2 ≤ b.toInt ∧ b.toInt ≤ 12) then a else w
def v_hpH (h a b : Int32) : Int32 := if (2 ≤ a.toInt ∧ a.toInt ≤ 12 ∧ 2 ≤ b.toInt ∧ b.toInt ≤ 12) then b else h
def v_hpC (c a b : Int32) : Int32 := if (2 ≤ a.toInt ∧ a.toInt ≤ 12 ∧ 2 ≤ b.toInt ∧ b.toInt ≤ 12) then 0 else c
def v_thA (c n k a m : Int32) : Int32 := if (0 ≤ k.toInt ∧ k.toInt < c.toInt ∧ 0 ≤ a.toInt ∧ a.toInt < n.toInt ∧ 0 ≤ m.toInt ∧ m.toInt ≤ 500) then 1 else 0
def v_no (xs ys : Nat → Int32) (n : Int) (x y : Int32) : Prop := ∀ j : Nat, (j : Int) < n → ¬ ((xs j).toInt = x.toInt ∧ (ys j).toInt = y.toInt)
theorem v_no_0 {xs ys : Nat → Int32} {n : Int} {x y : Int32} (h : n ≤ 0) : v_no xs ys n x y := fun j hj => absurd hj (by omega)
theorem v_no_s {xs ys : Nat → Int32} {i x y : Int32} {n : Int} (h : v_no xs ys i.toInt x y) (hi : (0 : Int) ≤ i.toInt) (hn : n = i.toInt + 1) (hne : ¬ ((xs i.toNatClampNeg).toInt = x.toInt ∧ (ys i.toNatClampNeg).toInt = y.toInt)) : v_no xs ys n x y := by
  intro j hj
  by_cases hji : (j : Int) < i.toInt
  · exact h j hji
  · have e : ((i.toNatClampNeg : Nat) : Int) = i.toInt := Int.toNat_of_nonneg hi
    have e2 : j = i.toNatClampNeg := by omega
    rw [e2]; exact hne
theorem v_no_end {xs ys : Nat → Int32} {n c : Int} {x y : Int32} (h : v_no xs ys n x y) (hc : c ≤ n) : v_no xs ys c x y := fun j hj => h j (by omega)
def v_cok (w h c : Int32) (xs ys : Nat → Int32) (x y : Int32) : Prop := ((0 : Int) ≤ x.toInt ∧ x.toInt < w.toInt ∧ (0 : Int) ≤ y.toInt ∧ y.toInt < h.toInt ∧ c.toInt < (10 : Int)) ∧ v_no xs ys c.toInt x y
theorem v_cok_mk {w h c x y : Int32} {xs ys : Nat → Int32} (h1 : (0 : Int) ≤ x.toInt ∧ x.toInt < w.toInt ∧ (0 : Int) ≤ y.toInt ∧ y.toInt < h.toInt ∧ c.toInt < (10 : Int)) (h2 : v_no xs ys c.toInt x y) : v_cok w h c xs ys x y := ⟨h1, h2⟩
theorem v_cok_out {w h c x y : Int32} {xs ys : Nat → Int32} (h1 : ¬ ((0 : Int) ≤ x.toInt ∧ x.toInt < w.toInt ∧ (0 : Int) ≤ y.toInt ∧ y.toInt < h.toInt ∧ c.toInt < (10 : Int))) : ¬ v_cok w h c xs ys x y := fun q => h1 q.1
theorem v_cok_hit {w h c x y : Int32} {xs ys : Nat → Int32} {i : Int32} (hi : (0 : Int) ≤ i.toInt) (hc : i.toInt < c.toInt) (he : (xs i.toNatClampNeg).toInt = x.toInt ∧ (ys i.toNatClampNeg).toInt = y.toInt) : ¬ v_cok w h c xs ys x y := fun q => by
  have e : ((i.toNatClampNeg : Nat) : Int) = i.toInt := Int.toNat_of_nonneg hi
  exact q.2 i.toNatClampNeg (by omega) he
noncomputable def v_coA (w h c : Int32) (xs ys : Nat → Int32) (x y : Int32) : Int32 := @ite _ (v_cok w h c xs ys x y) (Classical.propDecidable _) c (-1)
noncomputable def v_coN (w h c : Int32) (xs ys : Nat → Int32) (x y : Int32) : Int32 := @ite _ (v_cok w h c xs ys x y) (Classical.propDecidable _) (c + 1) c
noncomputable def v_coX (w h c : Int32) (xs ys : Nat → Int32) (x y : Int32) : Nat → Int32 := @ite _ (v_cok w h c xs ys x y) (Classical.propDecidable _) (upd xs c.toNatClampNeg x) xs
noncomputable def v_coY (w h c : Int32) (xs ys : Nat → Int32) (x y : Int32) : Nat → Int32 := @ite _ (v_cok w h c xs ys x y) (Classical.propDecidable _) (upd ys c.toNatClampNeg y) ys
theorem v_coA_pos {w h c x y : Int32} {xs ys : Nat → Int32} (q : v_cok w h c xs ys x y) : v_coA w h c xs ys x y = c := if_pos q
theorem v_coA_neg {w h c x y : Int32} {xs ys : Nat → Int32} (q : ¬ v_cok w h c xs ys x y) : v_coA w h c xs ys x y = (-1) := if_neg q
theorem v_coN_pos {w h c x y : Int32} {xs ys : Nat → Int32} (q : v_cok w h c xs ys x y) : v_coN w h c xs ys x y = c + 1 := if_pos q
theorem v_coN_neg {w h c x y : Int32} {xs ys : Nat → Int32} (q : ¬ v_cok w h c xs ys x y) : v_coN w h c xs ys x y = c := if_neg q
theorem v_coX_pos {w h c x y : Int32} {xs ys : Nat → Int32} (q : v_cok w h c xs ys x y) : v_coX w h c xs ys x y = upd xs c.toNatClampNeg x := if_pos q
theorem v_coX_neg {w h c x y : Int32} {xs ys : Nat → Int32} (q : ¬ v_cok w h c xs ys x y) : v_coX w h c xs ys x y = xs := if_neg q
theorem v_coY_pos {w h c x y : Int32} {xs ys : Nat → Int32} (q : v_cok w h c xs ys x y) : v_coY w h c xs ys x y = upd ys c.toNatClampNeg y := if_pos q
theorem v_coY_neg {w h c x y : Int32} {xs ys : Nat → Int32} (q : ¬ v_cok w h c xs ys x y) : v_coY w h c xs ys x y = ys := if_neg q
theorem z_add1 {c : Int32} (h : (0 : Int) ≤ c.toInt ∧ c.toInt ≤ (1000 : Int)) : (c + 1).toInt = c.toInt + 1 := z_add (a := c.toInt) (b := (1 : Int)) rfl rfl (by omega) (by omega)
def u_s_X11_layerA : List Cond := .code yX11_layer cX11_layer 1 (some .int) :: ([.fieldLink RX11 19 "ShellHeap" "book" "LShellHeap$Book;", .fieldLink RX11 137 "ShellHeap$Book" "layers" "I"] ++ (wsX110 ++ (wsX00 ++ [])))
set_option maxHeartbeats 4000000 in
set_option maxRecDepth 100000 in
theorem s_X11_layerA (l : Launch) (dC : Nat → ClassId) (dI : Nat → Nat → Nat) (sz : Nat) (h0 : Nat) (h0_0 : Value) (h1 : Nat) (h0_2 : Value) (h0_3 : Value) (h0_4 : Value) (h0_5 : Value) (h0_6 : Value) (h0_7 : Value) (h0_8 : Value) (h0_9 : Value) (h1_0 : Value) (h1_1 : Value) (h1_2 : Value) (h1_3 : Value) (h1_4 : Value) (bl : Int32) (hB_bl : ((0 : Int) ≤ (bl).toInt ∧ (bl).toInt ≤ (12 : Int))) : Met l yX11_layer u_s_X11_layerA ({ frames := 0, cells := 0, slots := 0, locals := 0 }) (va_Pc [.ref h0] (z_C (dC, dI) vwCl [(h0, .inr (11, [h0_0, .ref h1, h0_2, h0_3, h0_4, h0_5, h0_6, h0_7, h0_8, h0_9])), (h1, .inr (0, [h1_0, h1_1, h1_2, h1_3, h1_4, .int bl]))] [] sz)) (va_Qi (fun (r : Int32) (_ : Unit) => r = v_layA bl) (fun (_ : Unit) (t : State) => ∃ (n_h1_layers : Int32), ((0 : Int) ≤ (n_h1_layers).toInt ∧ (n_h1_layers).toInt ≤ (12 : Int)) ∧ (n_h1_layers = v_layN bl) ∧ va_P (dC, dI) vwCl [(h0, .inr (11, [h0_0, .ref h1, h0_2, h0_3, h0_4, h0_5, h0_6, h0_7, h0_8, h0_9])), (h1, .inr (0, [h1_0, h1_1, h1_2, h1_3, h1_4, .int n_h1_layers]))] t.heap ∧ va_K (dC, dI) vwCl [] t ∧ va_D (va_A [(h0, .inr (11, [h0_0, .ref h1, h0_2, h0_3, h0_4, h0_5, h0_6, h0_7, h0_8, h0_9])), (h1, .inr (0, [h1_0, h1_1, h1_2, h1_3, h1_4, .int bl]))] sz) [(h0, .inr (11, [h0_0, .ref h1, h0_2, h0_3, h0_4, h0_5, h0_6, h0_7, h0_8, h0_9])), (h1, .inr (0, [h1_0, h1_1, h1_2, h1_3, h1_4, .int n_h1_layers]))]) (va_A [(h0, .inr (11, [h0_0, .ref h1, h0_2, h0_3, h0_4, h0_5, h0_6, h0_7, h0_8, h0_9])), (h1, .inr (0, [h1_0, h1_1, h1_2, h1_3, h1_4, .int bl]))] sz)) 0 0 (va_A [(h0, .inr (11, [h0_0, .ref h1, h0_2, h0_3, h0_4, h0_5, h0_6, h0_7, h0_8, h0_9])), (h1, .inr (0, [h1_0, h1_1, h1_2, h1_3, h1_4, .int bl]))] sz) := by
  refine Met.ofW (cc := cX11_layer) (maxL := 1) (ret := (some .int)) (by decide) rfl ?_
  intro p e s m args below meth c s₁ B hml hv
  obtain ⟨rfl, hsz, hP, hK, hD0⟩ := hv
  have hx := B.exec
  have hb := B.bytes
  have hr := B.returns
  have hts := atoms_spec (ws := u_s_X11_layerA) B.pre
  have hown : s.vm.findClass RX11 = some m.cls := findClass_of_methodNamed B.named
  have hlocks := B.notSynchronized
  subst hsz
  have hD := hD0.self (sz := s.heap.size)
  generalize hAe : va_A [(h0, .inr (11, [h0_0, .ref h1, h0_2, h0_3, h0_4, h0_5, h0_6, h0_7, h0_8, h0_9])), (h1, .inr (0, [h1_0, h1_1, h1_2, h1_3, h1_4, .int bl]))] s.heap.size = A at hD ⊢
  have hA : ∀ q : Nat, s.heap.size ≤ q → A q := fun q h => by rw [← hAe]; exact Or.inr h
  have hS : va_S A s.heap s.heap [] := va_S.rf
  have hP : va_P (dC, dI) vwCl [(h0, .inr (11, [h0_0, .ref h1, h0_2, h0_3, h0_4, h0_5, h0_6, h0_7, h0_8, h0_9])), (h1, .inr (0, [h1_0, h1_1, h1_2, h1_3, h1_4, .int bl]))] s.heap := hP
  have w__fieldLink_RX11_19_ShellHeap_book_LShellHeap_Book_ := hts (.fieldLink RX11 19 "ShellHeap" "book" "LShellHeap$Book;") (z_mc (z_ml z_m0))
  have hiX11 := show ∀ w ∈ u_ws RX11 TX11 10, w ∈ u_s_X11_layerA from fun w h => z_mc (z_mr (z_ml h))
  have w__fieldLink_RX11_137_ShellHeap_Book_layers_I_ := hts (.fieldLink RX11 137 "ShellHeap$Book" "layers" "I") (z_mc (z_ml z_m1))
  have hiX0 := show ∀ w ∈ u_ws RX0 TX0 6, w ∈ u_s_X11_layerA from fun w h => z_mc (z_mr (z_mr (z_ml h)))
  have hl := lv_entry ([.ref h0]) (n := 1) (Nat.le_of_ble_eq_true rfl)
  rw [lg_entry_eq]
  generalize (lg_sl ([.ref h0]) ++ List.replicate (1 - (lg_sl ([.ref h0])).length) Slot.unset).toArray = ls at hl ⊢
  have hl : lv_has ls 1 [(0, .ref h0)] := hl
  refine lv_aload_n hx hb dX11_layer_0 rfl (lv_at hl 0 rfl) ?_
  refine va_get (D := (dC, dI)) (ci := 11) (v := .ref h1) (C := RX11) (T := TX11) (N := 10) hx hb hts hiX11 hown hK hP 0 rfl rfl 1 (by decide) w__fieldLink_RX11_19_ShellHeap_book_LShellHeap_Book_ (fun _ h9 => h9) rfl dX11_layer_1 ?_
  refine va_get (D := (dC, dI)) (ci := 0) (v := .int bl) (C := RX0) (T := TX0) (N := 6) hx hb hts hiX0 hown hK hP 1 rfl rfl 5 (by decide) w__fieldLink_RX11_137_ShellHeap_Book_layers_I_ (fun _ h9 => h9) rfl dX11_layer_4 ?_
  refine lv_bipush (v := 12) hx hb dX11_layer_7 (by decide) ?_
  refine lv_icmp_lt (tgt := 14) hx hb dX11_layer_9 (by decide) (fun c_1 => ?_) (fun c_1 => ?_)
  · have k_2 : (bl).toInt < (12 : Int) := z_lt c_1
    refine lv_aload_n hx hb dX11_layer_14 rfl (lv_at hl 0 rfl) ?_
    refine va_get (D := (dC, dI)) (ci := 11) (v := .ref h1) (C := RX11) (T := TX11) (N := 10) hx hb hts hiX11 hown hK hP 0 rfl rfl 1 (by decide) w__fieldLink_RX11_19_ShellHeap_book_LShellHeap_Book_ (fun _ h9 => h9) rfl dX11_layer_15 ?_
    refine lv_dup hx hb dX11_layer_18 rfl ?_
    refine va_get (D := (dC, dI)) (ci := 0) (v := .int bl) (C := RX0) (T := TX0) (N := 6) hx hb hts hiX0 hown hK hP 1 rfl rfl 5 (by decide) w__fieldLink_RX11_137_ShellHeap_Book_layers_I_ (fun _ h9 => h9) rfl dX11_layer_19 ?_
    refine lv_iconst (v := 1) hx hb dX11_layer_22 (by decide) ?_
    refine lv_iadd hx hb dX11_layer_23 ?_
    refine lv_topi (fun z_3 ez_3 => ?_)
    have kz_3 : (z_3).toInt = (bl).toInt + (1 : Int) := by rw [ez_3]; exact z_add (a := (bl).toInt) (b := (1 : Int)) rfl rfl (z_al hB_bl.1 (by decide)) (z_ah hB_bl.2 (by decide))
    refine va_put (D := (dC, dI)) (ci := 0) (v := .int z_3) (ty := .int) (C := RX0) (T := TX0) (N := 6) hx hb hts hiX0 tyX0 tyX0_ok nmX0 hown hK hP hD hS 1 rfl rfl 5 (by decide) w__fieldLink_RX11_137_ShellHeap_Book_layers_I_ (fun _ h9 => h9) rfl (by decide +kernel) rfl rfl (Nat.le_of_ble_eq_true rfl) dX11_layer_24 (fun H_4 locs hP hD hS => ?_)
    obtain ⟨hP, hD⟩ := z_s_1_5 hP hD
    refine lv_aload_n hx hb dX11_layer_27 rfl (lv_at hl 0 rfl) ?_
    refine va_get (D := (dC, dI)) (ci := 11) (v := .ref h1) (C := RX11) (T := TX11) (N := 10) hx hb hts hiX11 hown hK hP 0 rfl rfl 1 (by decide) w__fieldLink_RX11_19_ShellHeap_book_LShellHeap_Book_ (fun _ h9 => h9) rfl dX11_layer_28 ?_
    refine va_get (D := (dC, dI)) (ci := 0) (v := .int z_3) (C := RX0) (T := TX0) (N := 6) hx hb hts hiX0 hown hK hP 1 rfl rfl 5 (by decide) w__fieldLink_RX11_137_ShellHeap_Book_layers_I_ (fun _ h9 => h9) rfl dX11_layer_31 ?_
    refine lv_iconst (v := 1) hx hb dX11_layer_34 (by decide) ?_
    refine lv_isub hx hb dX11_layer_35 ?_
    refine lv_topi (fun z_5 ez_5 => ?_)
    have kz_5 : (z_5).toInt = (z_3).toInt - (1 : Int) := by rw [ez_5]; exact z_sub (a := (z_3).toInt) (b := (1 : Int)) rfl rfl (by omega) (by omega)
    have hP9 := hP
    have hD9 := hD
    have hK9 := hK.sub (tys' := []) [] rfl
    refine W.widen (k := 0) (n := 0) (Nat.le_of_ble_eq_true rfl) (Nat.le_of_ble_eq_true rfl) ?_
    exact W.iret (v := z_5) hx hb hr (fun t ht hW => ⟨⟨z_5, (), rfl, (show z_5 = v_layA bl by unfold v_layA; rw [if_pos (by omega)]; first | exact ez_5 | exact z_ii (by omega)), ⟨z_3, (by first | omega | decide), (show z_3 = v_layN bl by unfold v_layN; rw [if_pos (by omega)]; exact ez_3), by rw [ht]; exact hP9, va_K.moved hW.alike hK9, hD9⟩⟩, hS.F ht⟩) hS.2.2 dX11_layer_36
  · have k_6 : (bl).toInt ≥ (12 : Int) := z_nlt c_1
    refine lv_iconst (v := (-1)) hx hb dX11_layer_12 (by decide) ?_
    have hP9 := hP
    have hD9 := hD
    have hK9 := hK.sub (tys' := []) [] rfl
    refine W.widen (k := 0) (n := 0) (Nat.le_of_ble_eq_true rfl) (Nat.le_of_ble_eq_true rfl) ?_
    exact W.iret (v := (-1)) hx hb hr (fun t ht hW => ⟨⟨(-1), (), rfl, (show (-1) = v_layA bl by unfold v_layA; rw [if_neg (by omega)]), ⟨bl, hB_bl, (show bl = v_layN bl by unfold v_layN; rw [if_neg (by omega)]), by rw [ht]; exact hP9, va_K.moved hW.alike hK9, hD9⟩⟩, hS.F ht⟩) hS.2.2 dX11_layer_13
def u_s_X12_layerA : List Cond := .code yX12_layer cX12_layer 1 (some .int) :: ([.fieldLink RX12 145 "ShellHeapModel" "thrown" "I", .fieldLink RX12 151 "ShellHeapModel" "layers" "I"] ++ (wsX120 ++ []))
set_option maxHeartbeats 4000000 in
set_option maxRecDepth 100000 in
theorem s_X12_layerA (l : Launch) (dC : Nat → ClassId) (dI : Nat → Nat → Nat) (sz : Nat) (h0 : Nat) (h0_0 : Value) (h0_1 : Value) (mx : Int32) (ml : Int32) (h0_4 : Value) (h0_5 : Value) (h0_6 : Value) (h0_7 : Value) (h0_8 : Value) (h0_9 : Value) (h0_10 : Value) (h0_11 : Value) (h0_12 : Value) (h0_13 : Value) (h0_14 : Value) (h0_15 : Value) (h0_16 : Value) (h0_17 : Value) (h0_18 : Value) (h0_19 : Value) (h0_20 : Value) (h0_21 : Value) (h0_22 : Value) (h0_23 : Value) (h0_24 : Value) (h0_25 : Value) (h0_26 : Value) (h0_27 : Value) (h0_28 : Value) (h0_29 : Value) (h0_30 : Value) (h0_31 : Value) (h0_32 : Value) (h0_33 : Value) (h0_34 : Value) (h0_35 : Value) (h0_36 : Value) (h0_37 : Value) (h0_38 : Value) (h0_39 : Value) (h0_40 : Value) (h0_41 : Value) (h0_42 : Value) (h0_43 : Value) (h0_44 : Value) (h0_45 : Value) (h0_46 : Value) (h0_47 : Value) (h0_48 : Value) (h0_49 : Value) (h0_50 : Value) (h0_51 : Value) (h0_52 : Value) (h0_53 : Value) (h0_54 : Value) (h0_55 : Value) (h0_56 : Value) (h0_57 : Value) (h0_58 : Value) (h0_59 : Value) (h0_60 : Value) (h0_61 : Value) (h0_62 : Value) (h0_63 : Value) (h0_64 : Value) (h0_65 : Value) (h0_66 : Value) (h0_67 : Value) (h0_68 : Value) (h0_69 : Value) (hB_ml : ((0 : Int) ≤ (ml).toInt ∧ (ml).toInt ≤ (12 : Int))) : Met l yX12_layer u_s_X12_layerA ({ frames := 0, cells := 0, slots := 0, locals := 0 }) (va_Pc [.ref h0] (z_C (dC, dI) vwCl [(h0, .inr (12, [h0_0, h0_1, .int mx, .int ml, h0_4, h0_5, h0_6, h0_7, h0_8, h0_9, h0_10, h0_11, h0_12, h0_13, h0_14, h0_15, h0_16, h0_17, h0_18, h0_19, h0_20, h0_21, h0_22, h0_23, h0_24, h0_25, h0_26, h0_27, h0_28, h0_29, h0_30, h0_31, h0_32, h0_33, h0_34, h0_35, h0_36, h0_37, h0_38, h0_39, h0_40, h0_41, h0_42, h0_43, h0_44, h0_45, h0_46, h0_47, h0_48, h0_49, h0_50, h0_51, h0_52, h0_53, h0_54, h0_55, h0_56, h0_57, h0_58, h0_59, h0_60, h0_61, h0_62, h0_63, h0_64, h0_65, h0_66, h0_67, h0_68, h0_69]))] [] sz)) (va_Qi (fun (r : Int32) (_ : Unit) => r = v_layA ml) (fun (_ : Unit) (t : State) => ∃ (n_h0_thrown : Int32), ∃ (n_h0_layers : Int32), ((0 : Int) ≤ (n_h0_layers).toInt ∧ (n_h0_layers).toInt ≤ (12 : Int)) ∧ (n_h0_layers = v_layN ml) ∧ va_P (dC, dI) vwCl [(h0, .inr (12, [h0_0, h0_1, .int n_h0_thrown, .int n_h0_layers, h0_4, h0_5, h0_6, h0_7, h0_8, h0_9, h0_10, h0_11, h0_12, h0_13, h0_14, h0_15, h0_16, h0_17, h0_18, h0_19, h0_20, h0_21, h0_22, h0_23, h0_24, h0_25, h0_26, h0_27, h0_28, h0_29, h0_30, h0_31, h0_32, h0_33, h0_34, h0_35, h0_36, h0_37, h0_38, h0_39, h0_40, h0_41, h0_42, h0_43, h0_44, h0_45, h0_46, h0_47, h0_48, h0_49, h0_50, h0_51, h0_52, h0_53, h0_54, h0_55, h0_56, h0_57, h0_58, h0_59, h0_60, h0_61, h0_62, h0_63, h0_64, h0_65, h0_66, h0_67, h0_68, h0_69]))] t.heap ∧ va_K (dC, dI) vwCl [] t ∧ va_D (va_A [(h0, .inr (12, [h0_0, h0_1, .int mx, .int ml, h0_4, h0_5, h0_6, h0_7, h0_8, h0_9, h0_10, h0_11, h0_12, h0_13, h0_14, h0_15, h0_16, h0_17, h0_18, h0_19, h0_20, h0_21, h0_22, h0_23, h0_24, h0_25, h0_26, h0_27, h0_28, h0_29, h0_30, h0_31, h0_32, h0_33, h0_34, h0_35, h0_36, h0_37, h0_38, h0_39, h0_40, h0_41, h0_42, h0_43, h0_44, h0_45, h0_46, h0_47, h0_48, h0_49, h0_50, h0_51, h0_52, h0_53, h0_54, h0_55, h0_56, h0_57, h0_58, h0_59, h0_60, h0_61, h0_62, h0_63, h0_64, h0_65, h0_66, h0_67, h0_68, h0_69]))] sz) [(h0, .inr (12, [h0_0, h0_1, .int n_h0_thrown, .int n_h0_layers, h0_4, h0_5, h0_6, h0_7, h0_8, h0_9, h0_10, h0_11, h0_12, h0_13, h0_14, h0_15, h0_16, h0_17, h0_18, h0_19, h0_20, h0_21, h0_22, h0_23, h0_24, h0_25, h0_26, h0_27, h0_28, h0_29, h0_30, h0_31, h0_32, h0_33, h0_34, h0_35, h0_36, h0_37, h0_38, h0_39, h0_40, h0_41, h0_42, h0_43, h0_44, h0_45, h0_46, h0_47, h0_48, h0_49, h0_50, h0_51, h0_52, h0_53, h0_54, h0_55, h0_56, h0_57, h0_58, h0_59, h0_60, h0_61, h0_62, h0_63, h0_64, h0_65, h0_66, h0_67, h0_68, h0_69]))]) (va_A [(h0, .inr (12, [h0_0, h0_1, .int mx, .int ml, h0_4, h0_5, h0_6, h0_7, h0_8, h0_9, h0_10, h0_11, h0_12, h0_13, h0_14, h0_15, h0_16, h0_17, h0_18, h0_19, h0_20, h0_21, h0_22, h0_23, h0_24, h0_25, h0_26, h0_27, h0_28, h0_29, h0_30, h0_31, h0_32, h0_33, h0_34, h0_35, h0_36, h0_37, h0_38, h0_39, h0_40, h0_41, h0_42, h0_43, h0_44, h0_45, h0_46, h0_47, h0_48, h0_49, h0_50, h0_51, h0_52, h0_53, h0_54, h0_55, h0_56, h0_57, h0_58, h0_59, h0_60, h0_61, h0_62, h0_63, h0_64, h0_65, h0_66, h0_67, h0_68, h0_69]))] sz)) 0 0 (va_A [(h0, .inr (12, [h0_0, h0_1, .int mx, .int ml, h0_4, h0_5, h0_6, h0_7, h0_8, h0_9, h0_10, h0_11, h0_12, h0_13, h0_14, h0_15, h0_16, h0_17, h0_18, h0_19, h0_20, h0_21, h0_22, h0_23, h0_24, h0_25, h0_26, h0_27, h0_28, h0_29, h0_30, h0_31, h0_32, h0_33, h0_34, h0_35, h0_36, h0_37, h0_38, h0_39, h0_40, h0_41, h0_42, h0_43, h0_44, h0_45, h0_46, h0_47, h0_48, h0_49, h0_50, h0_51, h0_52, h0_53, h0_54, h0_55, h0_56, h0_57, h0_58, h0_59, h0_60, h0_61, h0_62, h0_63, h0_64, h0_65, h0_66, h0_67, h0_68, h0_69]))] sz) := by
  refine Met.ofW (cc := cX12_layer) (maxL := 1) (ret := (some .int)) (by decide) rfl ?_
  intro p e s m args below meth c s₁ B hml hv
  obtain ⟨rfl, hsz, hP, hK, hD0⟩ := hv
  have hx := B.exec
  have hb := B.bytes
  have hr := B.returns
  have hts := atoms_spec (ws := u_s_X12_layerA) B.pre
  have hown : s.vm.findClass RX12 = some m.cls := findClass_of_methodNamed B.named
  have hlocks := B.notSynchronized
  subst hsz
  have hD := hD0.self (sz := s.heap.size)
  generalize hAe : va_A [(h0, .inr (12, [h0_0, h0_1, .int mx, .int ml, h0_4, h0_5, h0_6, h0_7, h0_8, h0_9, h0_10, h0_11, h0_12, h0_13, h0_14, h0_15, h0_16, h0_17, h0_18, h0_19, h0_20, h0_21, h0_22, h0_23, h0_24, h0_25, h0_26, h0_27, h0_28, h0_29, h0_30, h0_31, h0_32, h0_33, h0_34, h0_35, h0_36, h0_37, h0_38, h0_39, h0_40, h0_41, h0_42, h0_43, h0_44, h0_45, h0_46, h0_47, h0_48, h0_49, h0_50, h0_51, h0_52, h0_53, h0_54, h0_55, h0_56, h0_57, h0_58, h0_59, h0_60, h0_61, h0_62, h0_63, h0_64, h0_65, h0_66, h0_67, h0_68, h0_69]))] s.heap.size = A at hD ⊢
  have hA : ∀ q : Nat, s.heap.size ≤ q → A q := fun q h => by rw [← hAe]; exact Or.inr h
  have hS : va_S A s.heap s.heap [] := va_S.rf
  have hP : va_P (dC, dI) vwCl [(h0, .inr (12, [h0_0, h0_1, .int mx, .int ml, h0_4, h0_5, h0_6, h0_7, h0_8, h0_9, h0_10, h0_11, h0_12, h0_13, h0_14, h0_15, h0_16, h0_17, h0_18, h0_19, h0_20, h0_21, h0_22, h0_23, h0_24, h0_25, h0_26, h0_27, h0_28, h0_29, h0_30, h0_31, h0_32, h0_33, h0_34, h0_35, h0_36, h0_37, h0_38, h0_39, h0_40, h0_41, h0_42, h0_43, h0_44, h0_45, h0_46, h0_47, h0_48, h0_49, h0_50, h0_51, h0_52, h0_53, h0_54, h0_55, h0_56, h0_57, h0_58, h0_59, h0_60, h0_61, h0_62, h0_63, h0_64, h0_65, h0_66, h0_67, h0_68, h0_69]))] s.heap := hP
  have w__fieldLink_RX12_145_ShellHeapModel_thrown_I_ := hts (.fieldLink RX12 145 "ShellHeapModel" "thrown" "I") (z_mc (z_ml z_m0))
  have hiX12 := show ∀ w ∈ u_ws RX12 TX12 70, w ∈ u_s_X12_layerA from fun w h => z_mc (z_mr (z_ml h))
  have w__fieldLink_RX12_151_ShellHeapModel_layers_I_ := hts (.fieldLink RX12 151 "ShellHeapModel" "layers" "I") (z_mc (z_ml z_m1))
  have hl := lv_entry ([.ref h0]) (n := 1) (Nat.le_of_ble_eq_true rfl)
  rw [lg_entry_eq]
  generalize (lg_sl ([.ref h0]) ++ List.replicate (1 - (lg_sl ([.ref h0])).length) Slot.unset).toArray = ls at hl ⊢
  have hl : lv_has ls 1 [(0, .ref h0)] := hl
  refine lv_aload_n hx hb dX12_layer_0 rfl (lv_at hl 0 rfl) ?_
  refine lv_iconst (v := 0) hx hb dX12_layer_1 (by decide) ?_
  refine va_put (D := (dC, dI)) (ci := 12) (v := .int 0) (ty := .int) (C := RX12) (T := TX12) (N := 70) hx hb hts hiX12 tyX12 tyX12_ok nmX12 hown hK hP hD hS 0 rfl rfl 2 (by decide) w__fieldLink_RX12_145_ShellHeapModel_thrown_I_ (fun _ h9 => h9) rfl (by decide +kernel) rfl rfl (Nat.le_of_ble_eq_true rfl) dX12_layer_2 (fun H_1 locs hP hD hS => ?_)
  obtain ⟨hP, hD⟩ := z_s_0_2 hP hD
  refine lv_aload_n hx hb dX12_layer_5 rfl (lv_at hl 0 rfl) ?_
  refine va_get (D := (dC, dI)) (ci := 12) (v := .int ml) (C := RX12) (T := TX12) (N := 70) hx hb hts hiX12 hown hK hP 0 rfl rfl 3 (by decide) w__fieldLink_RX12_151_ShellHeapModel_layers_I_ (fun _ h9 => h9) rfl dX12_layer_6 ?_
  refine lv_bipush (v := 12) hx hb dX12_layer_9 (by decide) ?_
  refine lv_icmp_ne (tgt := 16) hx hb dX12_layer_11 (by decide) (fun c_2 => ?_) (fun c_2 => ?_)
  · have k_3 : (ml).toInt ≠ (12 : Int) := z_ne c_2
    refine lv_aload_n hx hb dX12_layer_16 rfl (lv_at hl 0 rfl) ?_
    refine lv_dup hx hb dX12_layer_17 rfl ?_
    refine va_get (D := (dC, dI)) (ci := 12) (v := .int ml) (C := RX12) (T := TX12) (N := 70) hx hb hts hiX12 hown hK hP 0 rfl rfl 3 (by decide) w__fieldLink_RX12_151_ShellHeapModel_layers_I_ (fun _ h9 => h9) rfl dX12_layer_18 ?_
    refine lv_iconst (v := 1) hx hb dX12_layer_21 (by decide) ?_
    refine lv_iadd hx hb dX12_layer_22 ?_
    refine lv_topi (fun z_4 ez_4 => ?_)
    have kz_4 : (z_4).toInt = (ml).toInt + (1 : Int) := by rw [ez_4]; exact z_add (a := (ml).toInt) (b := (1 : Int)) rfl rfl (z_al hB_ml.1 (by decide)) (z_ah hB_ml.2 (by decide))
    refine va_put (D := (dC, dI)) (ci := 12) (v := .int z_4) (ty := .int) (C := RX12) (T := TX12) (N := 70) hx hb hts hiX12 tyX12 tyX12_ok nmX12 hown hK hP hD hS 0 rfl rfl 3 (by decide) w__fieldLink_RX12_151_ShellHeapModel_layers_I_ (fun _ h9 => h9) rfl (by decide +kernel) rfl rfl (Nat.le_of_ble_eq_true rfl) dX12_layer_23 (fun H_5 locs hP hD hS => ?_)
    obtain ⟨hP, hD⟩ := z_s_0_3 hP hD
    refine lv_aload_n hx hb dX12_layer_26 rfl (lv_at hl 0 rfl) ?_
    refine va_get (D := (dC, dI)) (ci := 12) (v := .int z_4) (C := RX12) (T := TX12) (N := 70) hx hb hts hiX12 hown hK hP 0 rfl rfl 3 (by decide) w__fieldLink_RX12_151_ShellHeapModel_layers_I_ (fun _ h9 => h9) rfl dX12_layer_27 ?_
    refine lv_iconst (v := 1) hx hb dX12_layer_30 (by decide) ?_
    refine lv_isub hx hb dX12_layer_31 ?_
    refine lv_topi (fun z_6 ez_6 => ?_)
    have kz_6 : (z_6).toInt = (z_4).toInt - (1 : Int) := by rw [ez_6]; exact z_sub (a := (z_4).toInt) (b := (1 : Int)) rfl rfl (by omega) (by omega)
    have hP9 := hP
    have hD9 := hD
    have hK9 := hK.sub (tys' := []) [] rfl
    refine W.widen (k := 0) (n := 0) (Nat.le_of_ble_eq_true rfl) (Nat.le_of_ble_eq_true rfl) ?_
    exact W.iret (v := z_6) hx hb hr (fun t ht hW => ⟨⟨z_6, (), rfl, (show z_6 = v_layA ml by unfold v_layA; rw [if_pos (by omega)]; first | exact ez_6 | exact z_ii (by omega)), ⟨0, z_4, (by first | omega | decide), (show z_4 = v_layN ml by unfold v_layN; rw [if_pos (by omega)]; exact ez_4), by rw [ht]; exact hP9, va_K.moved hW.alike hK9, hD9⟩⟩, hS.F ht⟩) hS.2.2 dX12_layer_32
  · have k_7 : (ml).toInt = (12 : Int) := z_eq c_2
    refine lv_iconst (v := (-1)) hx hb dX12_layer_14 (by decide) ?_
    have hP9 := hP
    have hD9 := hD
    have hK9 := hK.sub (tys' := []) [] rfl
    refine W.widen (k := 0) (n := 0) (Nat.le_of_ble_eq_true rfl) (Nat.le_of_ble_eq_true rfl) ?_
    exact W.iret (v := (-1)) hx hb hr (fun t ht hW => ⟨⟨(-1), (), rfl, (show (-1) = v_layA ml by unfold v_layA; rw [if_neg (by omega)]), ⟨0, ml, hB_ml, (show ml = v_layN ml by unfold v_layN; rw [if_neg (by omega)]), by rw [ht]; exact hP9, va_K.moved hW.alike hK9, hD9⟩⟩, hS.F ht⟩) hS.2.2 dX12_layer_15
def u_s_X2_drawA : List Cond := .code yX2_draw cX2_draw 4 (some .int) :: ([.fieldLink RX2 9 "ShellHeap$Ground" "w" "I", .fieldLink RX2 15 "ShellHeap$Ground" "h" "I", .fieldLink RX2 34 "ShellHeap$Ground" "columns" "I", .fieldLink RX2 18 "ShellHeap$Ground" "xs" "[I", .fieldLink RX2 22 "ShellHeap$Ground" "ys" "[I", .fieldLink RX2 31 "ShellHeap$Ground" "thickness" "[I"] ++ (wsX20 ++ []))
theorem gd_s_X2_drawA : z_gd u_s_X2_drawA := z_gdc (by decide +kernel) (z_gda gdX2 (z_gd0))
set_option maxHeartbeats 4000000 in
set_option maxRecDepth 100000 in
theorem s_X2_drawA (l : Launch) (dC : Nat → ClassId) (dI : Nat → Nat → Nat) (sz : Nat) (h0 : Nat) (p1 : Int32) (p2 : Int32) (gw : Int32) (gh : Int32) (h1 : Nat) (h2 : Nat) (h0_4 : Value) (h0_5 : Value) (h3 : Nat) (gc : Int32) (h0_8 : Value) (h0_9 : Value) (h0_10 : Value) (ch1 : ClassId) (fh1 : Nat → Int32) (ch2 : ClassId) (fh2 : Nat → Int32) (ch3 : ClassId) (fh3 : Nat → Int32) (hB_gw : ((2 : Int) ≤ (gw).toInt ∧ (gw).toInt ≤ (12 : Int))) (hB_gh : ((2 : Int) ≤ (gh).toInt ∧ (gh).toInt ≤ (12 : Int))) (hB_gc : ((0 : Int) ≤ (gc).toInt ∧ (gc).toInt ≤ (10 : Int))) : Met l yX2_draw u_s_X2_drawA ({ frames := 0, cells := 0, slots := 0, locals := 0 }) (va_Pc [.ref h0, .int p1, .int p2] (z_C (dC, dI) vwCl [(h0, .inr (2, [.int gw, .int gh, .ref h1, .ref h2, h0_4, h0_5, .ref h3, .int gc, h0_8, h0_9, h0_10])), (h1, .inl (ch1, 10, .inl fh1)), (h2, .inl (ch2, 10, .inl fh2)), (h3, .inl (ch3, 120, .inl fh3))] [(ch1, .int), (ch2, .int), (ch3, .int)] sz)) (va_Qi (fun (r : Int32) (_ : Unit) => r = v_coA gw gh gc fh1 fh2 p1 p2) (fun (_ : Unit) (t : State) => ∃ (n_h0_columns : Int32), ∃ (g_h1 : Nat → Int32), ∃ (g_h2 : Nat → Int32), ∃ (g_h3 : Nat → Int32), ((0 : Int) ≤ (n_h0_columns).toInt ∧ (n_h0_columns).toInt ≤ (10 : Int)) ∧ (n_h0_columns = v_coN gw gh gc fh1 fh2 p1 p2) ∧ (g_h1 = v_coX gw gh gc fh1 fh2 p1 p2) ∧ (g_h2 = v_coY gw gh gc fh1 fh2 p1 p2) ∧ va_P (dC, dI) vwCl [(h0, .inr (2, [.int gw, .int gh, .ref h1, .ref h2, h0_4, h0_5, .ref h3, .int n_h0_columns, h0_8, h0_9, h0_10])), (h1, .inl (ch1, 10, .inl g_h1)), (h2, .inl (ch2, 10, .inl g_h2)), (h3, .inl (ch3, 120, .inl g_h3))] t.heap ∧ va_K (dC, dI) vwCl [] t ∧ va_D (va_A [(h0, .inr (2, [.int gw, .int gh, .ref h1, .ref h2, h0_4, h0_5, .ref h3, .int gc, h0_8, h0_9, h0_10])), (h1, .inl (ch1, 10, .inl fh1)), (h2, .inl (ch2, 10, .inl fh2)), (h3, .inl (ch3, 120, .inl fh3))] sz) [(h0, .inr (2, [.int gw, .int gh, .ref h1, .ref h2, h0_4, h0_5, .ref h3, .int n_h0_columns, h0_8, h0_9, h0_10])), (h1, .inl (ch1, 10, .inl g_h1)), (h2, .inl (ch2, 10, .inl g_h2)), (h3, .inl (ch3, 120, .inl g_h3))]) (va_A [(h0, .inr (2, [.int gw, .int gh, .ref h1, .ref h2, h0_4, h0_5, .ref h3, .int gc, h0_8, h0_9, h0_10])), (h1, .inl (ch1, 10, .inl fh1)), (h2, .inl (ch2, 10, .inl fh2)), (h3, .inl (ch3, 120, .inl fh3))] sz)) 0 0 (va_A [(h0, .inr (2, [.int gw, .int gh, .ref h1, .ref h2, h0_4, h0_5, .ref h3, .int gc, h0_8, h0_9, h0_10])), (h1, .inl (ch1, 10, .inl fh1)), (h2, .inl (ch2, 10, .inl fh2)), (h3, .inl (ch3, 120, .inl fh3))] sz) := by
  refine Met.ofW (cc := cX2_draw) (maxL := 4) (ret := (some .int)) (by decide) rfl ?_
  intro p e s m args below meth c s₁ B hml hv
  obtain ⟨rfl, hsz, hP, hK, hD0⟩ := hv
  have hx := B.exec
  have hb := B.bytes
  have hr := B.returns
  have hts := atoms_spec (ws := u_s_X2_drawA) B.pre
  have hown : s.vm.findClass RX2 = some m.cls := findClass_of_methodNamed B.named
  have hlocks := B.notSynchronized
  subst hsz
  have hD := hD0.self (sz := s.heap.size)
  generalize hAe : va_A [(h0, .inr (2, [.int gw, .int gh, .ref h1, .ref h2, h0_4, h0_5, .ref h3, .int gc, h0_8, h0_9, h0_10])), (h1, .inl (ch1, 10, .inl fh1)), (h2, .inl (ch2, 10, .inl fh2)), (h3, .inl (ch3, 120, .inl fh3))] s.heap.size = A at hD ⊢
  have hA : ∀ q : Nat, s.heap.size ≤ q → A q := fun q h => by rw [← hAe]; exact Or.inr h
  have hS : va_S A s.heap s.heap [] := va_S.rf
  have hP : va_P (dC, dI) vwCl [(h0, .inr (2, [.int gw, .int gh, .ref h1, .ref h2, h0_4, h0_5, .ref h3, .int gc, h0_8, h0_9, h0_10])), (h1, .inl (ch1, 10, .inl fh1)), (h2, .inl (ch2, 10, .inl fh2)), (h3, .inl (ch3, 120, .inl fh3))] s.heap := hP
  have w__fieldLink_RX2_9_ShellHeap_Ground_w_I_ := hts (.fieldLink RX2 9 "ShellHeap$Ground" "w" "I") (z_mc (z_ml z_m0))
  have hiX2 := show ∀ w ∈ u_ws RX2 TX2 11, w ∈ u_s_X2_drawA from fun w h => z_mc (z_mr (z_ml h))
  have w__fieldLink_RX2_15_ShellHeap_Ground_h_I_ := hts (.fieldLink RX2 15 "ShellHeap$Ground" "h" "I") (z_mc (z_ml z_m1))
  have w__fieldLink_RX2_34_ShellHeap_Ground_columns_I_ := hts (.fieldLink RX2 34 "ShellHeap$Ground" "columns" "I") (z_mc (z_ml z_m2))
  have w__fieldLink_RX2_18_ShellHeap_Ground_xs_I_ := hts (.fieldLink RX2 18 "ShellHeap$Ground" "xs" "[I") (z_mc (z_ml z_m3))
  have w__fieldLink_RX2_22_ShellHeap_Ground_ys_I_ := hts (.fieldLink RX2 22 "ShellHeap$Ground" "ys" "[I") (z_mc (z_ml z_m4))
  have w__fieldLink_RX2_31_ShellHeap_Ground_thickness_I_ := hts (.fieldLink RX2 31 "ShellHeap$Ground" "thickness" "[I") (z_mc (z_ml z_m5))
  have krr_p1 := z_rng p1
  have krr_p2 := z_rng p2
  have hl := lv_entry ([.ref h0, .int p1, .int p2]) (n := 4) (Nat.le_of_ble_eq_true rfl)
  rw [lg_entry_eq]
  generalize (lg_sl ([.ref h0, .int p1, .int p2]) ++ List.replicate (4 - (lg_sl ([.ref h0, .int p1, .int p2])).length) Slot.unset).toArray = ls at hl ⊢
  have hl : lv_has ls 4 [(0, .ref h0), (1, .int p1), (2, .int p2)] := hl
  refine z_nameQ (fun QQ hQQ => ?_)
  refine lv_iload_n hx hb dX2_draw_0 rfl (lv_at hl 1 rfl) ?_
  refine lv_if_lt (tgt := 33) hx hb dX2_draw_1 (by decide) (fun c_1 => ?_) (fun c_1 => ?_)
  · have k_2 : (p1).toInt < (0 : Int) := z_lt c_1
    refine lv_iconst (v := (-1)) hx hb dX2_draw_33 (by decide) ?_
    refine z_backQ hQQ ?_
    have hP9 := hP
    have hD9 := hD
    have hK9 := hK.sub (tys' := []) [] rfl
    refine W.widen (k := 0) (n := 0) (Nat.le_of_ble_eq_true rfl) (Nat.le_of_ble_eq_true rfl) ?_
    exact W.iret (v := (-1)) hx hb hr (fun t ht hW => ⟨⟨(-1), (), rfl, (show (-1) = v_coA gw gh gc fh1 fh2 p1 p2 from (v_coA_neg (v_cok_out (show ¬ ((0 : Int) ≤ p1.toInt ∧ p1.toInt < gw.toInt ∧ (0 : Int) ≤ p2.toInt ∧ p2.toInt < gh.toInt ∧ gc.toInt < (10 : Int)) by omega))).symm), ⟨gc, fh1, fh2, fh3, hB_gc, (show gc = v_coN gw gh gc fh1 fh2 p1 p2 from (v_coN_neg (v_cok_out (show ¬ ((0 : Int) ≤ p1.toInt ∧ p1.toInt < gw.toInt ∧ (0 : Int) ≤ p2.toInt ∧ p2.toInt < gh.toInt ∧ gc.toInt < (10 : Int)) by omega))).symm), (show fh1 = v_coX gw gh gc fh1 fh2 p1 p2 from (v_coX_neg (v_cok_out (show ¬ ((0 : Int) ≤ p1.toInt ∧ p1.toInt < gw.toInt ∧ (0 : Int) ≤ p2.toInt ∧ p2.toInt < gh.toInt ∧ gc.toInt < (10 : Int)) by omega))).symm), (show fh2 = v_coY gw gh gc fh1 fh2 p1 p2 from (v_coY_neg (v_cok_out (show ¬ ((0 : Int) ≤ p1.toInt ∧ p1.toInt < gw.toInt ∧ (0 : Int) ≤ p2.toInt ∧ p2.toInt < gh.toInt ∧ gc.toInt < (10 : Int)) by omega))).symm), by rw [ht]; exact hP9, va_K.moved hW.alike hK9, hD9⟩⟩, hS.F ht⟩) hS.2.2 dX2_draw_34
  · have k_3 : (p1).toInt ≥ (0 : Int) := z_nlt c_1
    refine lv_iload_n hx hb dX2_draw_4 rfl (lv_at hl 1 rfl) ?_
    refine lv_aload_n hx hb dX2_draw_5 rfl (lv_at hl 0 rfl) ?_
    refine va_get (D := (dC, dI)) (ci := 2) (v := .int gw) (C := RX2) (T := TX2) (N := 11) hx hb hts hiX2 hown hK hP 0 rfl rfl 0 (by decide) w__fieldLink_RX2_9_ShellHeap_Ground_w_I_ (fun _ h9 => h9) rfl dX2_draw_6 ?_
    refine lv_icmp_ge (tgt := 33) hx hb dX2_draw_9 (by decide) (fun c_4 => ?_) (fun c_4 => ?_)
    · have k_5 : (gw).toInt ≤ (p1).toInt := z_le c_4
      refine lv_iconst (v := (-1)) hx hb dX2_draw_33 (by decide) ?_
      refine z_backQ hQQ ?_
      have hP9 := hP
      have hD9 := hD
      have hK9 := hK.sub (tys' := []) [] rfl
      refine W.widen (k := 0) (n := 0) (Nat.le_of_ble_eq_true rfl) (Nat.le_of_ble_eq_true rfl) ?_
      exact W.iret (v := (-1)) hx hb hr (fun t ht hW => ⟨⟨(-1), (), rfl, (show (-1) = v_coA gw gh gc fh1 fh2 p1 p2 from (v_coA_neg (v_cok_out (show ¬ ((0 : Int) ≤ p1.toInt ∧ p1.toInt < gw.toInt ∧ (0 : Int) ≤ p2.toInt ∧ p2.toInt < gh.toInt ∧ gc.toInt < (10 : Int)) by omega))).symm), ⟨gc, fh1, fh2, fh3, hB_gc, (show gc = v_coN gw gh gc fh1 fh2 p1 p2 from (v_coN_neg (v_cok_out (show ¬ ((0 : Int) ≤ p1.toInt ∧ p1.toInt < gw.toInt ∧ (0 : Int) ≤ p2.toInt ∧ p2.toInt < gh.toInt ∧ gc.toInt < (10 : Int)) by omega))).symm), (show fh1 = v_coX gw gh gc fh1 fh2 p1 p2 from (v_coX_neg (v_cok_out (show ¬ ((0 : Int) ≤ p1.toInt ∧ p1.toInt < gw.toInt ∧ (0 : Int) ≤ p2.toInt ∧ p2.toInt < gh.toInt ∧ gc.toInt < (10 : Int)) by omega))).symm), (show fh2 = v_coY gw gh gc fh1 fh2 p1 p2 from (v_coY_neg (v_cok_out (show ¬ ((0 : Int) ≤ p1.toInt ∧ p1.toInt < gw.toInt ∧ (0 : Int) ≤ p2.toInt ∧ p2.toInt < gh.toInt ∧ gc.toInt < (10 : Int)) by omega))).symm), by rw [ht]; exact hP9, va_K.moved hW.alike hK9, hD9⟩⟩, hS.F ht⟩) hS.2.2 dX2_draw_34
    · have k_6 : (gw).toInt > (p1).toInt := z_nle c_4
      refine lv_iload_n hx hb dX2_draw_12 rfl (lv_at hl 2 rfl) ?_
      refine lv_if_lt (tgt := 33) hx hb dX2_draw_13 (by decide) (fun c_7 => ?_) (fun c_7 => ?_)
      · have k_8 : (p2).toInt < (0 : Int) := z_lt c_7
        refine lv_iconst (v := (-1)) hx hb dX2_draw_33 (by decide) ?_
        refine z_backQ hQQ ?_
        have hP9 := hP
        have hD9 := hD
        have hK9 := hK.sub (tys' := []) [] rfl
        refine W.widen (k := 0) (n := 0) (Nat.le_of_ble_eq_true rfl) (Nat.le_of_ble_eq_true rfl) ?_
        exact W.iret (v := (-1)) hx hb hr (fun t ht hW => ⟨⟨(-1), (), rfl, (show (-1) = v_coA gw gh gc fh1 fh2 p1 p2 from (v_coA_neg (v_cok_out (show ¬ ((0 : Int) ≤ p1.toInt ∧ p1.toInt < gw.toInt ∧ (0 : Int) ≤ p2.toInt ∧ p2.toInt < gh.toInt ∧ gc.toInt < (10 : Int)) by omega))).symm), ⟨gc, fh1, fh2, fh3, hB_gc, (show gc = v_coN gw gh gc fh1 fh2 p1 p2 from (v_coN_neg (v_cok_out (show ¬ ((0 : Int) ≤ p1.toInt ∧ p1.toInt < gw.toInt ∧ (0 : Int) ≤ p2.toInt ∧ p2.toInt < gh.toInt ∧ gc.toInt < (10 : Int)) by omega))).symm), (show fh1 = v_coX gw gh gc fh1 fh2 p1 p2 from (v_coX_neg (v_cok_out (show ¬ ((0 : Int) ≤ p1.toInt ∧ p1.toInt < gw.toInt ∧ (0 : Int) ≤ p2.toInt ∧ p2.toInt < gh.toInt ∧ gc.toInt < (10 : Int)) by omega))).symm), (show fh2 = v_coY gw gh gc fh1 fh2 p1 p2 from (v_coY_neg (v_cok_out (show ¬ ((0 : Int) ≤ p1.toInt ∧ p1.toInt < gw.toInt ∧ (0 : Int) ≤ p2.toInt ∧ p2.toInt < gh.toInt ∧ gc.toInt < (10 : Int)) by omega))).symm), by rw [ht]; exact hP9, va_K.moved hW.alike hK9, hD9⟩⟩, hS.F ht⟩) hS.2.2 dX2_draw_34
      · have k_9 : (p2).toInt ≥ (0 : Int) := z_nlt c_7
        refine lv_iload_n hx hb dX2_draw_16 rfl (lv_at hl 2 rfl) ?_
        refine lv_aload_n hx hb dX2_draw_17 rfl (lv_at hl 0 rfl) ?_
        refine va_get (D := (dC, dI)) (ci := 2) (v := .int gh) (C := RX2) (T := TX2) (N := 11) hx hb hts hiX2 hown hK hP 0 rfl rfl 1 (by decide) w__fieldLink_RX2_15_ShellHeap_Ground_h_I_ (fun _ h9 => h9) rfl dX2_draw_18 ?_
        refine lv_icmp_ge (tgt := 33) hx hb dX2_draw_21 (by decide) (fun c_10 => ?_) (fun c_10 => ?_)
        · have k_11 : (gh).toInt ≤ (p2).toInt := z_le c_10
          refine lv_iconst (v := (-1)) hx hb dX2_draw_33 (by decide) ?_
          refine z_backQ hQQ ?_
          have hP9 := hP
          have hD9 := hD
          have hK9 := hK.sub (tys' := []) [] rfl
          refine W.widen (k := 0) (n := 0) (Nat.le_of_ble_eq_true rfl) (Nat.le_of_ble_eq_true rfl) ?_
          exact W.iret (v := (-1)) hx hb hr (fun t ht hW => ⟨⟨(-1), (), rfl, (show (-1) = v_coA gw gh gc fh1 fh2 p1 p2 from (v_coA_neg (v_cok_out (show ¬ ((0 : Int) ≤ p1.toInt ∧ p1.toInt < gw.toInt ∧ (0 : Int) ≤ p2.toInt ∧ p2.toInt < gh.toInt ∧ gc.toInt < (10 : Int)) by omega))).symm), ⟨gc, fh1, fh2, fh3, hB_gc, (show gc = v_coN gw gh gc fh1 fh2 p1 p2 from (v_coN_neg (v_cok_out (show ¬ ((0 : Int) ≤ p1.toInt ∧ p1.toInt < gw.toInt ∧ (0 : Int) ≤ p2.toInt ∧ p2.toInt < gh.toInt ∧ gc.toInt < (10 : Int)) by omega))).symm), (show fh1 = v_coX gw gh gc fh1 fh2 p1 p2 from (v_coX_neg (v_cok_out (show ¬ ((0 : Int) ≤ p1.toInt ∧ p1.toInt < gw.toInt ∧ (0 : Int) ≤ p2.toInt ∧ p2.toInt < gh.toInt ∧ gc.toInt < (10 : Int)) by omega))).symm), (show fh2 = v_coY gw gh gc fh1 fh2 p1 p2 from (v_coY_neg (v_cok_out (show ¬ ((0 : Int) ≤ p1.toInt ∧ p1.toInt < gw.toInt ∧ (0 : Int) ≤ p2.toInt ∧ p2.toInt < gh.toInt ∧ gc.toInt < (10 : Int)) by omega))).symm), by rw [ht]; exact hP9, va_K.moved hW.alike hK9, hD9⟩⟩, hS.F ht⟩) hS.2.2 dX2_draw_34
        · have k_12 : (gh).toInt > (p2).toInt := z_nle c_10
          refine lv_aload_n hx hb dX2_draw_24 rfl (lv_at hl 0 rfl) ?_
          refine va_get (D := (dC, dI)) (ci := 2) (v := .int gc) (C := RX2) (T := TX2) (N := 11) hx hb hts hiX2 hown hK hP 0 rfl rfl 7 (by decide) w__fieldLink_RX2_34_ShellHeap_Ground_columns_I_ (fun _ h9 => h9) rfl dX2_draw_25 ?_
          refine lv_bipush (v := 10) hx hb dX2_draw_28 (by decide) ?_
          refine lv_icmp_lt (tgt := 35) hx hb dX2_draw_30 (by decide) (fun c_13 => ?_) (fun c_13 => ?_)
          · have k_14 : (gc).toInt < (10 : Int) := z_lt c_13
            refine lv_iconst (v := 0) hx hb dX2_draw_35 (by decide) ?_
            refine lv_istore_n (lv' := [(3, .int 0), (0, .ref h0), (1, .int p1), (2, .int p2)]) hx hb dX2_draw_36 rfl hl (by decide) rfl (fun ls hl => ?_)
            have loop_15 : ∀ (n_16 : Nat) (i_18 : Int32) (H : Heap) (locs : List Loc) (ls : Array Slot), (11 - (i_18).toInt).toNat < n_16 → (((0 : Int) ≤ (i_18).toInt ∧ (i_18).toInt ≤ (10 : Int))) → (v_no fh1 fh2 (i_18).toInt p1 p2) → va_P (dC, dI) vwCl [(h0, .inr (2, [.int gw, .int gh, .ref h1, .ref h2, h0_4, h0_5, .ref h3, .int gc, h0_8, h0_9, h0_10])), (h1, .inl (ch1, 10, .inl fh1)), (h2, .inl (ch2, 10, .inl fh2)), (h3, .inl (ch3, 120, .inl fh3))] H → va_D A [(h0, .inr (2, [.int gw, .int gh, .ref h1, .ref h2, h0_4, h0_5, .ref h3, .int gc, h0_8, h0_9, h0_10])), (h1, .inl (ch1, 10, .inl fh1)), (h2, .inl (ch2, 10, .inl fh2)), (h3, .inl (ch3, 120, .inl fh3))] → va_S A s.heap H locs → lv_has ls 4 [(3, .int i_18), (0, .ref h0), (1, .int p1), (2, .int p2)] → W p l e ({ frames := 0, cells := 0, slots := 0, locals := 0 } : Room) s m ([.ref h0, .int p1, .int p2] : List Value).toArray below meth c H locs 0 0 QQ (F0 m 37 ls []) := by
              intro n_16
              induction n_16 with
              | zero => intro i_18 H locs ls hm; exact absurd hm (Nat.not_lt_zero _)
              | succ n_16 ih_17 =>
                intro i_18 H locs ls hm hF_19 hF_20 hP hD hS hl
                refine lv_iload_n hx hb dX2_draw_37 rfl (lv_at hl 0 rfl) ?_
                refine lv_aload_n hx hb dX2_draw_38 rfl (lv_at hl 1 rfl) ?_
                refine va_get (D := (dC, dI)) (ci := 2) (v := .int gc) (C := RX2) (T := TX2) (N := 11) hx hb hts hiX2 hown hK hP 0 rfl rfl 7 (by decide) w__fieldLink_RX2_34_ShellHeap_Ground_columns_I_ (fun _ h9 => h9) rfl dX2_draw_39 ?_
                refine lv_icmp_ge (tgt := 73) hx hb dX2_draw_42 (by decide) (fun c_21 => ?_) (fun c_21 => ?_)
                · have k_22 : (gc).toInt ≤ (i_18).toInt := z_le c_21
                  refine lv_aload_n hx hb dX2_draw_73 rfl (lv_at hl 1 rfl) ?_
                  refine va_get (D := (dC, dI)) (ci := 2) (v := .ref h1) (C := RX2) (T := TX2) (N := 11) hx hb hts hiX2 hown hK hP 0 rfl rfl 2 (by decide) w__fieldLink_RX2_18_ShellHeap_Ground_xs_I_ (fun _ h9 => h9) rfl dX2_draw_74 ?_
                  refine lv_aload_n hx hb dX2_draw_77 rfl (lv_at hl 1 rfl) ?_
                  refine va_get (D := (dC, dI)) (ci := 2) (v := .int gc) (C := RX2) (T := TX2) (N := 11) hx hb hts hiX2 hown hK hP 0 rfl rfl 7 (by decide) w__fieldLink_RX2_34_ShellHeap_Ground_columns_I_ (fun _ h9 => h9) rfl dX2_draw_78 ?_
                  refine lv_iload_n hx hb dX2_draw_81 rfl (lv_at hl 2 rfl) ?_
                  refine va_iast hx hb hK hP hD hS 1 0 rfl rfl (z_vpin (by omega) (by omega)) dX2_draw_82 (fun H_23 locs hP hD hS => ?_)
                  obtain ⟨hP, hD⟩ := z_s_1 hP hD
                  refine lv_aload_n hx hb dX2_draw_83 rfl (lv_at hl 1 rfl) ?_
                  refine va_get (D := (dC, dI)) (ci := 2) (v := .ref h2) (C := RX2) (T := TX2) (N := 11) hx hb hts hiX2 hown hK hP 0 rfl rfl 3 (by decide) w__fieldLink_RX2_22_ShellHeap_Ground_ys_I_ (fun _ h9 => h9) rfl dX2_draw_84 ?_
                  refine lv_aload_n hx hb dX2_draw_87 rfl (lv_at hl 1 rfl) ?_
                  refine va_get (D := (dC, dI)) (ci := 2) (v := .int gc) (C := RX2) (T := TX2) (N := 11) hx hb hts hiX2 hown hK hP 0 rfl rfl 7 (by decide) w__fieldLink_RX2_34_ShellHeap_Ground_columns_I_ (fun _ h9 => h9) rfl dX2_draw_88 ?_
                  refine lv_iload_n hx hb dX2_draw_91 rfl (lv_at hl 3 rfl) ?_
                  refine va_iast hx hb hK hP hD hS 2 1 rfl rfl (z_vpin (by omega) (by omega)) dX2_draw_92 (fun H_25 locs hP hD hS => ?_)
                  obtain ⟨hP, hD⟩ := z_s_2 hP hD
                  refine lv_iconst (v := 0) hx hb dX2_draw_93 (by decide) ?_
                  refine lv_istore_n (lv' := [(3, .int 0), (0, .ref h0), (1, .int p1), (2, .int p2)]) hx hb dX2_draw_94 rfl hl (by decide) rfl (fun ls hl => ?_)
                  have loop_27 : ∀ (n_28 : Nat) (i_30 : Int32) (f_31 : Nat → Int32) (H : Heap) (locs : List Loc) (ls : Array Slot), (13 - (i_30).toInt).toNat < n_28 → (((0 : Int) ≤ (i_30).toInt ∧ (i_30).toInt ≤ (12 : Int))) → va_P (dC, dI) vwCl [(h0, .inr (2, [.int gw, .int gh, .ref h1, .ref h2, h0_4, h0_5, .ref h3, .int gc, h0_8, h0_9, h0_10])), (h1, .inl (ch1, 10, .inl (upd fh1 (gc : Int32).toNatClampNeg p1))), (h2, .inl (ch2, 10, .inl (upd fh2 (gc : Int32).toNatClampNeg p2))), (h3, .inl (ch3, 120, .inl f_31))] H → va_D A [(h0, .inr (2, [.int gw, .int gh, .ref h1, .ref h2, h0_4, h0_5, .ref h3, .int gc, h0_8, h0_9, h0_10])), (h1, .inl (ch1, 10, .inl (upd fh1 (gc : Int32).toNatClampNeg p1))), (h2, .inl (ch2, 10, .inl (upd fh2 (gc : Int32).toNatClampNeg p2))), (h3, .inl (ch3, 120, .inl f_31))] → va_S A s.heap H locs → lv_has ls 4 [(3, .int i_30), (0, .ref h0), (1, .int p1), (2, .int p2)] → W p l e ({ frames := 0, cells := 0, slots := 0, locals := 0 } : Room) s m ([.ref h0, .int p1, .int p2] : List Value).toArray below meth c H locs 0 0 QQ (F0 m 95 ls []) := by
                    intro n_28
                    induction n_28 with
                    | zero => intro i_30 f_31 H locs ls hm; exact absurd hm (Nat.not_lt_zero _)
                    | succ n_28 ih_29 =>
                      intro i_30 f_31 H locs ls hm hF_32 hP hD hS hl
                      refine lv_iload_n hx hb dX2_draw_95 rfl (lv_at hl 0 rfl) ?_
                      refine lv_bipush (v := 12) hx hb dX2_draw_96 (by decide) ?_
                      refine lv_icmp_ge (tgt := 122) hx hb dX2_draw_98 (by decide) (fun c_33 => ?_) (fun c_33 => ?_)
                      · have k_34 : (12 : Int) ≤ (i_30).toInt := z_le c_33
                        obtain rfl : i_30 = 12 := z_eq' (show (i_30).toInt = (12 : Int) by omega)
                        refine lv_aload_n hx hb dX2_draw_122 rfl (lv_at hl 1 rfl) ?_
                        refine lv_dup hx hb dX2_draw_123 rfl ?_
                        refine va_get (D := (dC, dI)) (ci := 2) (v := .int gc) (C := RX2) (T := TX2) (N := 11) hx hb hts hiX2 hown hK hP 0 rfl rfl 7 (by decide) w__fieldLink_RX2_34_ShellHeap_Ground_columns_I_ (fun _ h9 => h9) rfl dX2_draw_124 ?_
                        refine lv_iconst (v := 1) hx hb dX2_draw_127 (by decide) ?_
                        refine lv_iadd hx hb dX2_draw_128 ?_
                        refine lv_topi (fun z_36 ez_36 => ?_)
                        have kz_36 : (z_36).toInt = (gc).toInt + (1 : Int) := by rw [ez_36]; exact z_add (a := (gc).toInt) (b := (1 : Int)) rfl rfl (z_al hB_gc.1 (by decide)) (z_ah hB_gc.2 (by decide))
                        refine va_put (D := (dC, dI)) (ci := 2) (v := .int z_36) (ty := .int) (C := RX2) (T := TX2) (N := 11) hx hb hts hiX2 tyX2 tyX2_ok nmX2 hown hK hP hD hS 0 rfl rfl 7 (by decide) w__fieldLink_RX2_34_ShellHeap_Ground_columns_I_ (fun _ h9 => h9) rfl (by decide +kernel) rfl rfl (Nat.le_of_ble_eq_true rfl) dX2_draw_129 (fun H_37 locs hP hD hS => ?_)
                        obtain ⟨hP, hD⟩ := z_s_0_7 hP hD
                        refine lv_aload_n hx hb dX2_draw_132 rfl (lv_at hl 1 rfl) ?_
                        refine va_get (D := (dC, dI)) (ci := 2) (v := .int z_36) (C := RX2) (T := TX2) (N := 11) hx hb hts hiX2 hown hK hP 0 rfl rfl 7 (by decide) w__fieldLink_RX2_34_ShellHeap_Ground_columns_I_ (fun _ h9 => h9) rfl dX2_draw_133 ?_
                        refine lv_iconst (v := 1) hx hb dX2_draw_136 (by decide) ?_
                        refine lv_isub hx hb dX2_draw_137 ?_
                        refine lv_topi (fun z_38 ez_38 => ?_)
                        have kz_38 : (z_38).toInt = (z_36).toInt - (1 : Int) := by rw [ez_38]; exact z_sub (a := (z_36).toInt) (b := (1 : Int)) rfl rfl (by omega) (by omega)
                        refine z_backQ hQQ ?_
                        have hP9 := hP
                        have hD9 := hD
                        have hK9 := hK.sub (tys' := []) [] rfl
                        refine W.widen (k := 0) (n := 0) (Nat.le_of_ble_eq_true rfl) (Nat.le_of_ble_eq_true rfl) ?_
                        exact W.iret (v := z_38) hx hb hr (fun t ht hW => ⟨⟨z_38, (), rfl, (show z_38 = v_coA gw gh gc fh1 fh2 p1 p2 from (z_ii (show (z_38).toInt = (gc).toInt by omega)).trans (v_coA_pos (v_cok_mk (show ((0 : Int) ≤ p1.toInt ∧ p1.toInt < gw.toInt ∧ (0 : Int) ≤ p2.toInt ∧ p2.toInt < gh.toInt ∧ gc.toInt < (10 : Int)) by omega) (v_no_end hF_20 (by omega)))).symm), ⟨z_36, (upd fh1 (gc : Int32).toNatClampNeg p1), (upd fh2 (gc : Int32).toNatClampNeg p2), f_31, (by first | omega | decide), (show z_36 = v_coN gw gh gc fh1 fh2 p1 p2 from (show z_36 = gc + 1 from z_ii (by rw [z_add1 (by omega)]; omega)).trans (v_coN_pos (v_cok_mk (show ((0 : Int) ≤ p1.toInt ∧ p1.toInt < gw.toInt ∧ (0 : Int) ≤ p2.toInt ∧ p2.toInt < gh.toInt ∧ gc.toInt < (10 : Int)) by omega) (v_no_end hF_20 (by omega)))).symm), (show (upd fh1 (gc : Int32).toNatClampNeg p1) = v_coX gw gh gc fh1 fh2 p1 p2 from (v_coX_pos (v_cok_mk (show ((0 : Int) ≤ p1.toInt ∧ p1.toInt < gw.toInt ∧ (0 : Int) ≤ p2.toInt ∧ p2.toInt < gh.toInt ∧ gc.toInt < (10 : Int)) by omega) (v_no_end hF_20 (by omega)))).symm), (show (upd fh2 (gc : Int32).toNatClampNeg p2) = v_coY gw gh gc fh1 fh2 p1 p2 from (v_coY_pos (v_cok_mk (show ((0 : Int) ≤ p1.toInt ∧ p1.toInt < gw.toInt ∧ (0 : Int) ≤ p2.toInt ∧ p2.toInt < gh.toInt ∧ gc.toInt < (10 : Int)) by omega) (v_no_end hF_20 (by omega)))).symm), by rw [ht]; exact hP9, va_K.moved hW.alike hK9, hD9⟩⟩, hS.F ht⟩) hS.2.2 dX2_draw_138
                      · have k_39 : (12 : Int) > (i_30).toInt := z_nle c_33
                        refine lv_aload_n hx hb dX2_draw_101 rfl (lv_at hl 1 rfl) ?_
                        refine va_get (D := (dC, dI)) (ci := 2) (v := .ref h3) (C := RX2) (T := TX2) (N := 11) hx hb hts hiX2 hown hK hP 0 rfl rfl 6 (by decide) w__fieldLink_RX2_31_ShellHeap_Ground_thickness_I_ (fun _ h9 => h9) rfl dX2_draw_102 ?_
                        refine lv_aload_n hx hb dX2_draw_105 rfl (lv_at hl 1 rfl) ?_
                        refine va_get (D := (dC, dI)) (ci := 2) (v := .int gc) (C := RX2) (T := TX2) (N := 11) hx hb hts hiX2 hown hK hP 0 rfl rfl 7 (by decide) w__fieldLink_RX2_34_ShellHeap_Ground_columns_I_ (fun _ h9 => h9) rfl dX2_draw_106 ?_
                        refine lv_bipush (v := 12) hx hb dX2_draw_109 (by decide) ?_
                        refine lv_imul hx hb dX2_draw_111 ?_
                        refine lv_topi (fun z_40 ez_40 => ?_)
                        have kz_40 : (z_40).toInt = (gc).toInt * (12 : Int) := by rw [ez_40]; exact z_mul (a := (gc).toInt) (b := (12 : Int)) rfl rfl (by omega) (by omega)
                        refine lv_iload_n hx hb dX2_draw_112 rfl (lv_at hl 0 rfl) ?_
                        refine lv_iadd hx hb dX2_draw_113 ?_
                        refine lv_topi (fun z_41 ez_41 => ?_)
                        have kz_41 : (z_41).toInt = (z_40).toInt + (i_30).toInt := by rw [ez_41]; exact z_add (a := (z_40).toInt) (b := (i_30).toInt) rfl rfl (by omega) (by omega)
                        refine lv_iconst (v := 0) hx hb dX2_draw_114 (by decide) ?_
                        refine va_iast hx hb hK hP hD hS 3 2 rfl rfl (z_vpin (by omega) (by omega)) dX2_draw_115 (fun H_42 locs hP hD hS => ?_)
                        obtain ⟨hP, hD⟩ := z_s_3 hP hD
                        generalize (upd f_31 (z_41 : Int32).toNatClampNeg 0) = f_43 at hP hD
                        obtain ⟨z_44, ez_44⟩ : ∃ y : Int32, y = i_30 + 1 := ⟨_, rfl⟩
                        have kz_44 : (z_44).toInt = (i_30).toInt + (1 : Int) := by rw [ez_44]; exact z_add (b := 1) rfl rfl (z_al hF_32.1 (by decide)) (z_ah hF_32.2 (by decide))
                        refine lv_iinc (v := z_44) (lv' := [(3, .int z_44), (0, .ref h0), (1, .int p1), (2, .int p2)]) hx hb dX2_draw_116 hl (k := 0) rfl (by rw [ez_44]; rfl) (by decide) rfl (fun ls hl => ?_)
                        refine lv_goto (tgt := 95) hx hb dX2_draw_119 (by decide) ?_
                        exact ih_29 z_44 f_43 _ _ _ (show (13 - (z_44).toInt).toNat < n_28 by omega) (show ((0 : Int) ≤ (z_44).toInt ∧ (z_44).toInt ≤ (12 : Int)) by omega) hP hD hS (lv_sub hl [0, 1, 2, 3] rfl)
                  exact loop_27 _ 0 fh3 _ _ _ (Nat.lt_succ_self _) (show ((0 : Int) ≤ (0 : Int) ∧ (0 : Int) ≤ (12 : Int)) by omega) hP hD hS hl
                · have k_45 : (gc).toInt > (i_18).toInt := z_nle c_21
                  refine lv_aload_n hx hb dX2_draw_45 rfl (lv_at hl 1 rfl) ?_
                  refine va_get (D := (dC, dI)) (ci := 2) (v := .ref h1) (C := RX2) (T := TX2) (N := 11) hx hb hts hiX2 hown hK hP 0 rfl rfl 2 (by decide) w__fieldLink_RX2_18_ShellHeap_Ground_xs_I_ (fun _ h9 => h9) rfl dX2_draw_46 ?_
                  refine lv_iload_n hx hb dX2_draw_49 rfl (lv_at hl 0 rfl) ?_
                  refine va_iald hx hb hK hP 1 0 rfl rfl (z_vpin (by omega) (by omega)) dX2_draw_50 ?_
                  refine lv_topi (fun z_46 ez_46 => ?_)
                  refine lv_iload_n hx hb dX2_draw_51 rfl (lv_at hl 2 rfl) ?_
                  refine lv_icmp_ne (tgt := 67) hx hb dX2_draw_52 (by decide) (fun c_47 => ?_) (fun c_47 => ?_)
                  · have k_48 : (z_46).toInt ≠ (p1).toInt := z_ne c_47
                    obtain ⟨z_49, ez_49⟩ : ∃ y : Int32, y = i_18 + 1 := ⟨_, rfl⟩
                    have kz_49 : (z_49).toInt = (i_18).toInt + (1 : Int) := by rw [ez_49]; exact z_add (b := 1) rfl rfl (z_al hF_19.1 (by decide)) (z_ah hF_19.2 (by decide))
                    refine lv_iinc (v := z_49) (lv' := [(3, .int z_49), (0, .ref h0), (1, .int p1), (2, .int p2)]) hx hb dX2_draw_67 hl (k := 0) rfl (by rw [ez_49]; rfl) (by decide) rfl (fun ls hl => ?_)
                    refine lv_goto (tgt := 37) hx hb dX2_draw_70 (by decide) ?_
                    exact ih_17 z_49 _ _ _ (show (11 - (z_49).toInt).toNat < n_16 by omega) (show ((0 : Int) ≤ (z_49).toInt ∧ (z_49).toInt ≤ (10 : Int)) by omega) (show v_no fh1 fh2 (z_49).toInt p1 p2 from v_no_s hF_20 (by omega) (by omega) (by rw [← ez_46]; omega)) hP hD hS (lv_sub hl [0, 1, 2, 3] rfl)
                  · have k_50 : (z_46).toInt = (p1).toInt := z_eq c_47
                    refine lv_aload_n hx hb dX2_draw_55 rfl (lv_at hl 1 rfl) ?_
                    refine va_get (D := (dC, dI)) (ci := 2) (v := .ref h2) (C := RX2) (T := TX2) (N := 11) hx hb hts hiX2 hown hK hP 0 rfl rfl 3 (by decide) w__fieldLink_RX2_22_ShellHeap_Ground_ys_I_ (fun _ h9 => h9) rfl dX2_draw_56 ?_
                    refine lv_iload_n hx hb dX2_draw_59 rfl (lv_at hl 0 rfl) ?_
                    refine va_iald hx hb hK hP 2 1 rfl rfl (z_vpin (by omega) (by omega)) dX2_draw_60 ?_
                    refine lv_topi (fun z_51 ez_51 => ?_)
                    refine lv_iload_n hx hb dX2_draw_61 rfl (lv_at hl 3 rfl) ?_
                    refine lv_icmp_ne (tgt := 67) hx hb dX2_draw_62 (by decide) (fun c_52 => ?_) (fun c_52 => ?_)
                    · have k_53 : (z_51).toInt ≠ (p2).toInt := z_ne c_52
                      obtain ⟨z_54, ez_54⟩ : ∃ y : Int32, y = i_18 + 1 := ⟨_, rfl⟩
                      have kz_54 : (z_54).toInt = (i_18).toInt + (1 : Int) := by rw [ez_54]; exact z_add (b := 1) rfl rfl (z_al hF_19.1 (by decide)) (z_ah hF_19.2 (by decide))
                      refine lv_iinc (v := z_54) (lv' := [(3, .int z_54), (0, .ref h0), (1, .int p1), (2, .int p2)]) hx hb dX2_draw_67 hl (k := 0) rfl (by rw [ez_54]; rfl) (by decide) rfl (fun ls hl => ?_)
                      refine lv_goto (tgt := 37) hx hb dX2_draw_70 (by decide) ?_
                      exact ih_17 z_54 _ _ _ (show (11 - (z_54).toInt).toNat < n_16 by omega) (show ((0 : Int) ≤ (z_54).toInt ∧ (z_54).toInt ≤ (10 : Int)) by omega) (show v_no fh1 fh2 (z_54).toInt p1 p2 from v_no_s hF_20 (by omega) (by omega) (by rw [← ez_46, ← ez_51]; omega)) hP hD hS (lv_sub hl [0, 1, 2, 3] rfl)
                    · have k_55 : (z_51).toInt = (p2).toInt := z_eq c_52
                      refine lv_iconst (v := (-1)) hx hb dX2_draw_65 (by decide) ?_
                      refine z_backQ hQQ ?_
                      have hP9 := hP
                      have hD9 := hD
                      have hK9 := hK.sub (tys' := []) [] rfl
                      refine W.widen (k := 0) (n := 0) (Nat.le_of_ble_eq_true rfl) (Nat.le_of_ble_eq_true rfl) ?_
                      exact W.iret (v := (-1)) hx hb hr (fun t ht hW => ⟨⟨(-1), (), rfl, (show (-1) = v_coA gw gh gc fh1 fh2 p1 p2 from (v_coA_neg (v_cok_hit (xs := fh1) (ys := fh2) (i := i_18) (by omega) (by omega) (by rw [← ez_46, ← ez_51]; omega))).symm), ⟨gc, fh1, fh2, fh3, hB_gc, (show gc = v_coN gw gh gc fh1 fh2 p1 p2 from (v_coN_neg (v_cok_hit (xs := fh1) (ys := fh2) (i := i_18) (by omega) (by omega) (by rw [← ez_46, ← ez_51]; omega))).symm), (show fh1 = v_coX gw gh gc fh1 fh2 p1 p2 from (v_coX_neg (v_cok_hit (xs := fh1) (ys := fh2) (i := i_18) (by omega) (by omega) (by rw [← ez_46, ← ez_51]; omega))).symm), (show fh2 = v_coY gw gh gc fh1 fh2 p1 p2 from (v_coY_neg (v_cok_hit (xs := fh1) (ys := fh2) (i := i_18) (by omega) (by omega) (by rw [← ez_46, ← ez_51]; omega))).symm), by rw [ht]; exact hP9, va_K.moved hW.alike hK9, hD9⟩⟩, hS.F ht⟩) hS.2.2 dX2_draw_66
            exact loop_15 _ 0 _ _ _ (Nat.lt_succ_self _) (show ((0 : Int) ≤ (0 : Int) ∧ (0 : Int) ≤ (10 : Int)) by omega) (show v_no fh1 fh2 (0 : Int) p1 p2 from v_no_0 (by decide)) hP hD hS hl
          · have k_56 : (gc).toInt ≥ (10 : Int) := z_nlt c_13
            refine lv_iconst (v := (-1)) hx hb dX2_draw_33 (by decide) ?_
            refine z_backQ hQQ ?_
            have hP9 := hP
            have hD9 := hD
            have hK9 := hK.sub (tys' := []) [] rfl
            refine W.widen (k := 0) (n := 0) (Nat.le_of_ble_eq_true rfl) (Nat.le_of_ble_eq_true rfl) ?_
            exact W.iret (v := (-1)) hx hb hr (fun t ht hW => ⟨⟨(-1), (), rfl, (show (-1) = v_coA gw gh gc fh1 fh2 p1 p2 from (v_coA_neg (v_cok_out (show ¬ ((0 : Int) ≤ p1.toInt ∧ p1.toInt < gw.toInt ∧ (0 : Int) ≤ p2.toInt ∧ p2.toInt < gh.toInt ∧ gc.toInt < (10 : Int)) by omega))).symm), ⟨gc, fh1, fh2, fh3, hB_gc, (show gc = v_coN gw gh gc fh1 fh2 p1 p2 from (v_coN_neg (v_cok_out (show ¬ ((0 : Int) ≤ p1.toInt ∧ p1.toInt < gw.toInt ∧ (0 : Int) ≤ p2.toInt ∧ p2.toInt < gh.toInt ∧ gc.toInt < (10 : Int)) by omega))).symm), (show fh1 = v_coX gw gh gc fh1 fh2 p1 p2 from (v_coX_neg (v_cok_out (show ¬ ((0 : Int) ≤ p1.toInt ∧ p1.toInt < gw.toInt ∧ (0 : Int) ≤ p2.toInt ∧ p2.toInt < gh.toInt ∧ gc.toInt < (10 : Int)) by omega))).symm), (show fh2 = v_coY gw gh gc fh1 fh2 p1 p2 from (v_coY_neg (v_cok_out (show ¬ ((0 : Int) ≤ p1.toInt ∧ p1.toInt < gw.toInt ∧ (0 : Int) ≤ p2.toInt ∧ p2.toInt < gh.toInt ∧ gc.toInt < (10 : Int)) by omega))).symm), by rw [ht]; exact hP9, va_K.moved hW.alike hK9, hD9⟩⟩, hS.F ht⟩) hS.2.2 dX2_draw_34
def u_s_X11_columnA : List Cond := .code yX11_column cX11_column 3 (some .int) :: ([.fieldLink RX11 35 "ShellHeap" "ground" "LShellHeap$Ground;", .methodLink RX11 177 yX2_draw, .instanceMethod yX2_draw, .selects RX2 yX2_draw yX2_draw, .initialized RX2] ++ (wsX110 ++ (u_s_X2_drawA ++ [])))
set_option maxRecDepth 20000 in
theorem gw_s_X11_columnA_s_X2_drawA_177 : GoodIn u_s_X11_columnA (wsV RX11 177 RX2 yX2_draw u_s_X2_drawA) := z_gV (z_gr _ [2, 3, 4, 5] rfl (by decide +kernel)) (fun w h => ⟨z_mc (z_mr (z_mr (z_ml h))), gd_s_X2_drawA w h⟩)
set_option maxHeartbeats 4000000 in
set_option maxRecDepth 100000 in
theorem s_X11_columnA (l : Launch) (dC : Nat → ClassId) (dI : Nat → Nat → Nat) (sz : Nat) (h0 : Nat) (p1 : Int32) (p2 : Int32) (h0_0 : Value) (h0_1 : Value) (h0_2 : Value) (hg : Nat) (h0_4 : Value) (h0_5 : Value) (h0_6 : Value) (h0_7 : Value) (h0_8 : Value) (h0_9 : Value) (gw : Int32) (gh : Int32) (h1 : Nat) (h2 : Nat) (hg_4 : Value) (hg_5 : Value) (h3 : Nat) (gc : Int32) (hg_8 : Value) (hg_9 : Value) (hg_10 : Value) (ch1 : ClassId) (fh1 : Nat → Int32) (ch2 : ClassId) (fh2 : Nat → Int32) (ch3 : ClassId) (fh3 : Nat → Int32) (hB_gw : ((2 : Int) ≤ (gw).toInt ∧ (gw).toInt ≤ (12 : Int))) (hB_gh : ((2 : Int) ≤ (gh).toInt ∧ (gh).toInt ≤ (12 : Int))) (hB_gc : ((0 : Int) ≤ (gc).toInt ∧ (gc).toInt ≤ (10 : Int))) : Met l yX11_column u_s_X11_columnA ({ frames := 1, cells := 0, slots := 0, locals := 23 }) (va_Pc [.ref h0, .int p1, .int p2] (z_C (dC, dI) vwCl [(h0, .inr (11, [h0_0, h0_1, h0_2, .ref hg, h0_4, h0_5, h0_6, h0_7, h0_8, h0_9])), (hg, .inr (2, [.int gw, .int gh, .ref h1, .ref h2, hg_4, hg_5, .ref h3, .int gc, hg_8, hg_9, hg_10])), (h1, .inl (ch1, 10, .inl fh1)), (h2, .inl (ch2, 10, .inl fh2)), (h3, .inl (ch3, 120, .inl fh3))] [(ch1, .int), (ch2, .int), (ch3, .int)] sz)) (va_Qi (fun (r : Int32) (_ : Unit) => r = v_coA gw gh gc fh1 fh2 p1 p2) (fun (_ : Unit) (t : State) => ∃ (n_hg_columns : Int32), ∃ (g_h1 : Nat → Int32), ∃ (g_h2 : Nat → Int32), ∃ (g_h3 : Nat → Int32), ((0 : Int) ≤ (n_hg_columns).toInt ∧ (n_hg_columns).toInt ≤ (10 : Int)) ∧ (n_hg_columns = v_coN gw gh gc fh1 fh2 p1 p2) ∧ (g_h1 = v_coX gw gh gc fh1 fh2 p1 p2) ∧ (g_h2 = v_coY gw gh gc fh1 fh2 p1 p2) ∧ va_P (dC, dI) vwCl [(h0, .inr (11, [h0_0, h0_1, h0_2, .ref hg, h0_4, h0_5, h0_6, h0_7, h0_8, h0_9])), (hg, .inr (2, [.int gw, .int gh, .ref h1, .ref h2, hg_4, hg_5, .ref h3, .int n_hg_columns, hg_8, hg_9, hg_10])), (h1, .inl (ch1, 10, .inl g_h1)), (h2, .inl (ch2, 10, .inl g_h2)), (h3, .inl (ch3, 120, .inl g_h3))] t.heap ∧ va_K (dC, dI) vwCl [] t ∧ va_D (va_A [(h0, .inr (11, [h0_0, h0_1, h0_2, .ref hg, h0_4, h0_5, h0_6, h0_7, h0_8, h0_9])), (hg, .inr (2, [.int gw, .int gh, .ref h1, .ref h2, hg_4, hg_5, .ref h3, .int gc, hg_8, hg_9, hg_10])), (h1, .inl (ch1, 10, .inl fh1)), (h2, .inl (ch2, 10, .inl fh2)), (h3, .inl (ch3, 120, .inl fh3))] sz) [(h0, .inr (11, [h0_0, h0_1, h0_2, .ref hg, h0_4, h0_5, h0_6, h0_7, h0_8, h0_9])), (hg, .inr (2, [.int gw, .int gh, .ref h1, .ref h2, hg_4, hg_5, .ref h3, .int n_hg_columns, hg_8, hg_9, hg_10])), (h1, .inl (ch1, 10, .inl g_h1)), (h2, .inl (ch2, 10, .inl g_h2)), (h3, .inl (ch3, 120, .inl g_h3))]) (va_A [(h0, .inr (11, [h0_0, h0_1, h0_2, .ref hg, h0_4, h0_5, h0_6, h0_7, h0_8, h0_9])), (hg, .inr (2, [.int gw, .int gh, .ref h1, .ref h2, hg_4, hg_5, .ref h3, .int gc, hg_8, hg_9, hg_10])), (h1, .inl (ch1, 10, .inl fh1)), (h2, .inl (ch2, 10, .inl fh2)), (h3, .inl (ch3, 120, .inl fh3))] sz)) 0 0 (va_A [(h0, .inr (11, [h0_0, h0_1, h0_2, .ref hg, h0_4, h0_5, h0_6, h0_7, h0_8, h0_9])), (hg, .inr (2, [.int gw, .int gh, .ref h1, .ref h2, hg_4, hg_5, .ref h3, .int gc, hg_8, hg_9, hg_10])), (h1, .inl (ch1, 10, .inl fh1)), (h2, .inl (ch2, 10, .inl fh2)), (h3, .inl (ch3, 120, .inl fh3))] sz) := by
  refine Met.ofW (cc := cX11_column) (maxL := 3) (ret := (some .int)) (by decide) rfl ?_
  intro p e s m args below meth c s₁ B hml hv
  obtain ⟨rfl, hsz, hP, hK, hD0⟩ := hv
  have hx := B.exec
  have hb := B.bytes
  have hr := B.returns
  have hts := atoms_spec (ws := u_s_X11_columnA) B.pre
  have hown : s.vm.findClass RX11 = some m.cls := findClass_of_methodNamed B.named
  have hlocks := B.notSynchronized
  subst hsz
  have hD := hD0.self (sz := s.heap.size)
  generalize hAe : va_A [(h0, .inr (11, [h0_0, h0_1, h0_2, .ref hg, h0_4, h0_5, h0_6, h0_7, h0_8, h0_9])), (hg, .inr (2, [.int gw, .int gh, .ref h1, .ref h2, hg_4, hg_5, .ref h3, .int gc, hg_8, hg_9, hg_10])), (h1, .inl (ch1, 10, .inl fh1)), (h2, .inl (ch2, 10, .inl fh2)), (h3, .inl (ch3, 120, .inl fh3))] s.heap.size = A at hD ⊢
  have hA : ∀ q : Nat, s.heap.size ≤ q → A q := fun q h => by rw [← hAe]; exact Or.inr h
  have hS : va_S A s.heap s.heap [] := va_S.rf
  have hP : va_P (dC, dI) vwCl [(h0, .inr (11, [h0_0, h0_1, h0_2, .ref hg, h0_4, h0_5, h0_6, h0_7, h0_8, h0_9])), (hg, .inr (2, [.int gw, .int gh, .ref h1, .ref h2, hg_4, hg_5, .ref h3, .int gc, hg_8, hg_9, hg_10])), (h1, .inl (ch1, 10, .inl fh1)), (h2, .inl (ch2, 10, .inl fh2)), (h3, .inl (ch3, 120, .inl fh3))] s.heap := hP
  have w__fieldLink_RX11_35_ShellHeap_ground_LShellHeap_Ground_ := hts (.fieldLink RX11 35 "ShellHeap" "ground" "LShellHeap$Ground;") (z_mc (z_ml z_m0))
  have hiX11 := show ∀ w ∈ u_ws RX11 TX11 10, w ∈ u_s_X11_columnA from fun w h => z_mc (z_mr (z_ml h))
  have krr_p1 := z_rng p1
  have krr_p2 := z_rng p2
  have hl := lv_entry ([.ref h0, .int p1, .int p2]) (n := 3) (Nat.le_of_ble_eq_true rfl)
  rw [lg_entry_eq]
  generalize (lg_sl ([.ref h0, .int p1, .int p2]) ++ List.replicate (3 - (lg_sl ([.ref h0, .int p1, .int p2])).length) Slot.unset).toArray = ls at hl ⊢
  have hl : lv_has ls 3 [(0, .ref h0), (1, .int p1), (2, .int p2)] := hl
  refine lv_aload_n hx hb dX11_column_0 rfl (lv_at hl 0 rfl) ?_
  refine va_get (D := (dC, dI)) (ci := 11) (v := .ref hg) (C := RX11) (T := TX11) (N := 10) hx hb hts hiX11 hown hK hP 0 rfl rfl 3 (by decide) w__fieldLink_RX11_35_ShellHeap_ground_LShellHeap_Ground_ (fun _ h9 => h9) rfl dX11_column_1 ?_
  refine lv_iload_n hx hb dX11_column_4 rfl (lv_at hl 1 rfl) ?_
  refine lv_iload_n hx hb dX11_column_5 rfl (lv_at hl 2 rfl) ?_
  obtain ⟨hPc, hDc, hFc⟩ := z_sub3 (ws' := [(hg, .inr (2, [.int gw, .int gh, .ref h1, .ref h2, hg_4, hg_5, .ref h3, .int gc, hg_8, hg_9, hg_10])), (h1, .inl (ch1, 10, .inl fh1)), (h2, .inl (ch2, 10, .inl fh2)), (h3, .inl (ch3, 120, .inl fh3))]) hP hD hS hA [1, 2, 3, 4] (by decide) rfl
  have hKc := hK
  refine va_calli (va_runV (As := [.int p1, .int p2]) (rest := []) ⟨hx, hb, hml, hown, hts⟩ (s_X2_drawA l dC dI s.heap.size hg p1 p2 gw gh h1 h2 hg_4 hg_5 h3 gc hg_8 hg_9 hg_10 ch1 fh1 ch2 fh2 ch3 fh3 hB_gw hB_gh hB_gc) (cwV 2 hts gw_s_X11_columnA_s_X2_drawA_177 rfl rfl rfl (by decide +kernel) ⟨Nat.le_of_ble_eq_true rfl, Nat.le_of_ble_eq_true rfl⟩) ⟨z_blind, va_recv hKc hPc (ci := 2) (q0 := 0) rfl rfl, z_pre hPc hKc hDc⟩ rfl rfl hl.1 rfl (lv_room (Nat.le_of_ble_eq_true rfl)) dX11_column_6 ⟨Nat.le_of_ble_eq_true rfl, Nat.le_of_ble_eq_true rfl⟩) hS (fun q _ h => hFc q h) hFc (fun r_2 u t H_1 locs ht hvm hw_3 hB hz1 hk1 hS => ?_)
  obtain ⟨n_h0_columns_4, g_h1_5, g_h2_6, g_h3_7, hp_8, hp_9, hp_10, hp_11, hP1, hK1, hD1⟩ := hB
  rw [ht] at hP1
  have hK1 := va_K.moved hvm.symm hK1
  obtain ⟨hP, hD⟩ := z_ap_1 (va_join (wr := [(h0, .inr (11, [h0_0, h0_1, h0_2, .ref hg, h0_4, h0_5, h0_6, h0_7, h0_8, h0_9]))]) hP hD [1, 2, 3, 4] [0] rfl rfl (by decide) (by decide) hk1 hFc hP1 hD1)
  have hp_9 : n_h0_columns_4 = v_coN gw gh gc fh1 fh2 p1 p2 := hp_9
  have hp_10 : g_h1_5 = v_coX gw gh gc fh1 fh2 p1 p2 := hp_10
  have hp_11 : g_h2_6 = v_coY gw gh gc fh1 fh2 p1 p2 := hp_11
  clear hPc hDc hKc
  have hP9 := hP
  have hD9 := hD
  have hK9 := hK.sub (tys' := []) [] rfl
  refine W.widen (k := 0) (n := 0) (Nat.le_of_ble_eq_true rfl) (Nat.le_of_ble_eq_true rfl) ?_
  exact W.iret (v := r_2) hx hb hr (fun t ht hW => ⟨⟨r_2, (), rfl, (show r_2 = v_coA gw gh gc fh1 fh2 p1 p2 from hw_3), ⟨n_h0_columns_4, g_h1_5, g_h2_6, g_h3_7, hp_8, hp_9, hp_10, hp_11, by rw [ht]; exact hP9, va_K.moved hW.alike hK9, hD9⟩⟩, hS.F ht⟩) hS.2.2 dX11_column_9
def u_s_X12_columnA : List Cond := .code yX12_column cX12_column 4 (some .int) :: ([.fieldLink RX12 145 "ShellHeapModel" "thrown" "I", .fieldLink RX12 181 "ShellHeapModel" "columns" "I", .fieldLink RX12 47 "ShellHeapModel" "wide" "I", .fieldLink RX12 51 "ShellHeapModel" "tall" "I", .fieldLink RX12 54 "ShellHeapModel" "columnX" "[I", .fieldLink RX12 57 "ShellHeapModel" "columnY" "[I", .fieldLink RX12 60 "ShellHeapModel" "thickOf" "[I"] ++ (wsX120 ++ []))
set_option maxHeartbeats 4000000 in
set_option maxRecDepth 100000 in
theorem s_X12_columnA (l : Launch) (dC : Nat → ClassId) (dI : Nat → Nat → Nat) (sz : Nat) (h0 : Nat) (p1 : Int32) (p2 : Int32) (h0_0 : Value) (h0_1 : Value) (mx : Int32) (h0_3 : Value) (h0_4 : Value) (h0_5 : Value) (h0_6 : Value) (h0_7 : Value) (h0_8 : Value) (h0_9 : Value) (h0_10 : Value) (h0_11 : Value) (h0_12 : Value) (h0_13 : Value) (h0_14 : Value) (h0_15 : Value) (h0_16 : Value) (mw : Int32) (mh : Int32) (mc : Int32) (h1 : Nat) (h2 : Nat) (h3 : Nat) (h0_23 : Value) (h0_24 : Value) (h0_25 : Value) (h0_26 : Value) (h0_27 : Value) (h0_28 : Value) (h0_29 : Value) (h0_30 : Value) (h0_31 : Value) (h0_32 : Value) (h0_33 : Value) (h0_34 : Value) (h0_35 : Value) (h0_36 : Value) (h0_37 : Value) (h0_38 : Value) (h0_39 : Value) (h0_40 : Value) (h0_41 : Value) (h0_42 : Value) (h0_43 : Value) (h0_44 : Value) (h0_45 : Value) (h0_46 : Value) (h0_47 : Value) (h0_48 : Value) (h0_49 : Value) (h0_50 : Value) (h0_51 : Value) (h0_52 : Value) (h0_53 : Value) (h0_54 : Value) (h0_55 : Value) (h0_56 : Value) (h0_57 : Value) (h0_58 : Value) (h0_59 : Value) (h0_60 : Value) (h0_61 : Value) (h0_62 : Value) (h0_63 : Value) (h0_64 : Value) (h0_65 : Value) (h0_66 : Value) (h0_67 : Value) (h0_68 : Value) (h0_69 : Value) (ch1 : ClassId) (fh1 : Nat → Int32) (ch2 : ClassId) (fh2 : Nat → Int32) (ch3 : ClassId) (fh3 : Nat → Int32) (hB_mw : ((2 : Int) ≤ (mw).toInt ∧ (mw).toInt ≤ (12 : Int))) (hB_mh : ((2 : Int) ≤ (mh).toInt ∧ (mh).toInt ≤ (12 : Int))) (hB_mc : ((0 : Int) ≤ (mc).toInt ∧ (mc).toInt ≤ (10 : Int))) : Met l yX12_column u_s_X12_columnA ({ frames := 0, cells := 0, slots := 0, locals := 0 }) (va_Pc [.ref h0, .int p1, .int p2] (z_C (dC, dI) vwCl [(h0, .inr (12, [h0_0, h0_1, .int mx, h0_3, h0_4, h0_5, h0_6, h0_7, h0_8, h0_9, h0_10, h0_11, h0_12, h0_13, h0_14, h0_15, h0_16, .int mw, .int mh, .int mc, .ref h1, .ref h2, .ref h3, h0_23, h0_24, h0_25, h0_26, h0_27, h0_28, h0_29, h0_30, h0_31, h0_32, h0_33, h0_34, h0_35, h0_36, h0_37, h0_38, h0_39, h0_40, h0_41, h0_42, h0_43, h0_44, h0_45, h0_46, h0_47, h0_48, h0_49, h0_50, h0_51, h0_52, h0_53, h0_54, h0_55, h0_56, h0_57, h0_58, h0_59, h0_60, h0_61, h0_62, h0_63, h0_64, h0_65, h0_66, h0_67, h0_68, h0_69])), (h1, .inl (ch1, 10, .inl fh1)), (h2, .inl (ch2, 10, .inl fh2)), (h3, .inl (ch3, 120, .inl fh3))] [(ch1, .int), (ch2, .int), (ch3, .int)] sz)) (va_Qi (fun (r : Int32) (_ : Unit) => r = v_coA mw mh mc fh1 fh2 p1 p2) (fun (_ : Unit) (t : State) => ∃ (n_h0_thrown : Int32), ∃ (n_h0_columns : Int32), ∃ (g_h1 : Nat → Int32), ∃ (g_h2 : Nat → Int32), ∃ (g_h3 : Nat → Int32), ((0 : Int) ≤ (n_h0_columns).toInt ∧ (n_h0_columns).toInt ≤ (10 : Int)) ∧ (n_h0_columns = v_coN mw mh mc fh1 fh2 p1 p2) ∧ (g_h1 = v_coX mw mh mc fh1 fh2 p1 p2) ∧ (g_h2 = v_coY mw mh mc fh1 fh2 p1 p2) ∧ va_P (dC, dI) vwCl [(h0, .inr (12, [h0_0, h0_1, .int n_h0_thrown, h0_3, h0_4, h0_5, h0_6, h0_7, h0_8, h0_9, h0_10, h0_11, h0_12, h0_13, h0_14, h0_15, h0_16, .int mw, .int mh, .int n_h0_columns, .ref h1, .ref h2, .ref h3, h0_23, h0_24, h0_25, h0_26, h0_27, h0_28, h0_29, h0_30, h0_31, h0_32, h0_33, h0_34, h0_35, h0_36, h0_37, h0_38, h0_39, h0_40, h0_41, h0_42, h0_43, h0_44, h0_45, h0_46, h0_47, h0_48, h0_49, h0_50, h0_51, h0_52, h0_53, h0_54, h0_55, h0_56, h0_57, h0_58, h0_59, h0_60, h0_61, h0_62, h0_63, h0_64, h0_65, h0_66, h0_67, h0_68, h0_69])), (h1, .inl (ch1, 10, .inl g_h1)), (h2, .inl (ch2, 10, .inl g_h2)), (h3, .inl (ch3, 120, .inl g_h3))] t.heap ∧ va_K (dC, dI) vwCl [] t ∧ va_D (va_A [(h0, .inr (12, [h0_0, h0_1, .int mx, h0_3, h0_4, h0_5, h0_6, h0_7, h0_8, h0_9, h0_10, h0_11, h0_12, h0_13, h0_14, h0_15, h0_16, .int mw, .int mh, .int mc, .ref h1, .ref h2, .ref h3, h0_23, h0_24, h0_25, h0_26, h0_27, h0_28, h0_29, h0_30, h0_31, h0_32, h0_33, h0_34, h0_35, h0_36, h0_37, h0_38, h0_39, h0_40, h0_41, h0_42, h0_43, h0_44, h0_45, h0_46, h0_47, h0_48, h0_49, h0_50, h0_51, h0_52, h0_53, h0_54, h0_55, h0_56, h0_57, h0_58, h0_59, h0_60, h0_61, h0_62, h0_63, h0_64, h0_65, h0_66, h0_67, h0_68, h0_69])), (h1, .inl (ch1, 10, .inl fh1)), (h2, .inl (ch2, 10, .inl fh2)), (h3, .inl (ch3, 120, .inl fh3))] sz) [(h0, .inr (12, [h0_0, h0_1, .int n_h0_thrown, h0_3, h0_4, h0_5, h0_6, h0_7, h0_8, h0_9, h0_10, h0_11, h0_12, h0_13, h0_14, h0_15, h0_16, .int mw, .int mh, .int n_h0_columns, .ref h1, .ref h2, .ref h3, h0_23, h0_24, h0_25, h0_26, h0_27, h0_28, h0_29, h0_30, h0_31, h0_32, h0_33, h0_34, h0_35, h0_36, h0_37, h0_38, h0_39, h0_40, h0_41, h0_42, h0_43, h0_44, h0_45, h0_46, h0_47, h0_48, h0_49, h0_50, h0_51, h0_52, h0_53, h0_54, h0_55, h0_56, h0_57, h0_58, h0_59, h0_60, h0_61, h0_62, h0_63, h0_64, h0_65, h0_66, h0_67, h0_68, h0_69])), (h1, .inl (ch1, 10, .inl g_h1)), (h2, .inl (ch2, 10, .inl g_h2)), (h3, .inl (ch3, 120, .inl g_h3))]) (va_A [(h0, .inr (12, [h0_0, h0_1, .int mx, h0_3, h0_4, h0_5, h0_6, h0_7, h0_8, h0_9, h0_10, h0_11, h0_12, h0_13, h0_14, h0_15, h0_16, .int mw, .int mh, .int mc, .ref h1, .ref h2, .ref h3, h0_23, h0_24, h0_25, h0_26, h0_27, h0_28, h0_29, h0_30, h0_31, h0_32, h0_33, h0_34, h0_35, h0_36, h0_37, h0_38, h0_39, h0_40, h0_41, h0_42, h0_43, h0_44, h0_45, h0_46, h0_47, h0_48, h0_49, h0_50, h0_51, h0_52, h0_53, h0_54, h0_55, h0_56, h0_57, h0_58, h0_59, h0_60, h0_61, h0_62, h0_63, h0_64, h0_65, h0_66, h0_67, h0_68, h0_69])), (h1, .inl (ch1, 10, .inl fh1)), (h2, .inl (ch2, 10, .inl fh2)), (h3, .inl (ch3, 120, .inl fh3))] sz)) 0 0 (va_A [(h0, .inr (12, [h0_0, h0_1, .int mx, h0_3, h0_4, h0_5, h0_6, h0_7, h0_8, h0_9, h0_10, h0_11, h0_12, h0_13, h0_14, h0_15, h0_16, .int mw, .int mh, .int mc, .ref h1, .ref h2, .ref h3, h0_23, h0_24, h0_25, h0_26, h0_27, h0_28, h0_29, h0_30, h0_31, h0_32, h0_33, h0_34, h0_35, h0_36, h0_37, h0_38, h0_39, h0_40, h0_41, h0_42, h0_43, h0_44, h0_45, h0_46, h0_47, h0_48, h0_49, h0_50, h0_51, h0_52, h0_53, h0_54, h0_55, h0_56, h0_57, h0_58, h0_59, h0_60, h0_61, h0_62, h0_63, h0_64, h0_65, h0_66, h0_67, h0_68, h0_69])), (h1, .inl (ch1, 10, .inl fh1)), (h2, .inl (ch2, 10, .inl fh2)), (h3, .inl (ch3, 120, .inl fh3))] sz) := by
  refine Met.ofW (cc := cX12_column) (maxL := 4) (ret := (some .int)) (by decide) rfl ?_
  intro p e s m args below meth c s₁ B hml hv
  obtain ⟨rfl, hsz, hP, hK, hD0⟩ := hv
  have hx := B.exec
  have hb := B.bytes
  have hr := B.returns
  have hts := atoms_spec (ws := u_s_X12_columnA) B.pre
  have hown : s.vm.findClass RX12 = some m.cls := findClass_of_methodNamed B.named
  have hlocks := B.notSynchronized
  subst hsz
  have hD := hD0.self (sz := s.heap.size)
  generalize hAe : va_A [(h0, .inr (12, [h0_0, h0_1, .int mx, h0_3, h0_4, h0_5, h0_6, h0_7, h0_8, h0_9, h0_10, h0_11, h0_12, h0_13, h0_14, h0_15, h0_16, .int mw, .int mh, .int mc, .ref h1, .ref h2, .ref h3, h0_23, h0_24, h0_25, h0_26, h0_27, h0_28, h0_29, h0_30, h0_31, h0_32, h0_33, h0_34, h0_35, h0_36, h0_37, h0_38, h0_39, h0_40, h0_41, h0_42, h0_43, h0_44, h0_45, h0_46, h0_47, h0_48, h0_49, h0_50, h0_51, h0_52, h0_53, h0_54, h0_55, h0_56, h0_57, h0_58, h0_59, h0_60, h0_61, h0_62, h0_63, h0_64, h0_65, h0_66, h0_67, h0_68, h0_69])), (h1, .inl (ch1, 10, .inl fh1)), (h2, .inl (ch2, 10, .inl fh2)), (h3, .inl (ch3, 120, .inl fh3))] s.heap.size = A at hD ⊢
  have hA : ∀ q : Nat, s.heap.size ≤ q → A q := fun q h => by rw [← hAe]; exact Or.inr h
  have hS : va_S A s.heap s.heap [] := va_S.rf
  have hP : va_P (dC, dI) vwCl [(h0, .inr (12, [h0_0, h0_1, .int mx, h0_3, h0_4, h0_5, h0_6, h0_7, h0_8, h0_9, h0_10, h0_11, h0_12, h0_13, h0_14, h0_15, h0_16, .int mw, .int mh, .int mc, .ref h1, .ref h2, .ref h3, h0_23, h0_24, h0_25, h0_26, h0_27, h0_28, h0_29, h0_30, h0_31, h0_32, h0_33, h0_34, h0_35, h0_36, h0_37, h0_38, h0_39, h0_40, h0_41, h0_42, h0_43, h0_44, h0_45, h0_46, h0_47, h0_48, h0_49, h0_50, h0_51, h0_52, h0_53, h0_54, h0_55, h0_56, h0_57, h0_58, h0_59, h0_60, h0_61, h0_62, h0_63, h0_64, h0_65, h0_66, h0_67, h0_68, h0_69])), (h1, .inl (ch1, 10, .inl fh1)), (h2, .inl (ch2, 10, .inl fh2)), (h3, .inl (ch3, 120, .inl fh3))] s.heap := hP
  have w__fieldLink_RX12_145_ShellHeapModel_thrown_I_ := hts (.fieldLink RX12 145 "ShellHeapModel" "thrown" "I") (z_mc (z_ml z_m0))
  have hiX12 := show ∀ w ∈ u_ws RX12 TX12 70, w ∈ u_s_X12_columnA from fun w h => z_mc (z_mr (z_ml h))
  have w__fieldLink_RX12_181_ShellHeapModel_columns_I_ := hts (.fieldLink RX12 181 "ShellHeapModel" "columns" "I") (z_mc (z_ml z_m1))
  have w__fieldLink_RX12_47_ShellHeapModel_wide_I_ := hts (.fieldLink RX12 47 "ShellHeapModel" "wide" "I") (z_mc (z_ml z_m2))
  have w__fieldLink_RX12_51_ShellHeapModel_tall_I_ := hts (.fieldLink RX12 51 "ShellHeapModel" "tall" "I") (z_mc (z_ml z_m3))
  have w__fieldLink_RX12_54_ShellHeapModel_columnX_I_ := hts (.fieldLink RX12 54 "ShellHeapModel" "columnX" "[I") (z_mc (z_ml z_m4))
  have w__fieldLink_RX12_57_ShellHeapModel_columnY_I_ := hts (.fieldLink RX12 57 "ShellHeapModel" "columnY" "[I") (z_mc (z_ml z_m5))
  have w__fieldLink_RX12_60_ShellHeapModel_thickOf_I_ := hts (.fieldLink RX12 60 "ShellHeapModel" "thickOf" "[I") (z_mc (z_ml z_m6))
  have krr_p1 := z_rng p1
  have krr_p2 := z_rng p2
  have hl := lv_entry ([.ref h0, .int p1, .int p2]) (n := 4) (Nat.le_of_ble_eq_true rfl)
  rw [lg_entry_eq]
  generalize (lg_sl ([.ref h0, .int p1, .int p2]) ++ List.replicate (4 - (lg_sl ([.ref h0, .int p1, .int p2])).length) Slot.unset).toArray = ls at hl ⊢
  have hl : lv_has ls 4 [(0, .ref h0), (1, .int p1), (2, .int p2)] := hl
  refine z_nameQ (fun QQ hQQ => ?_)
  refine lv_aload_n hx hb dX12_column_0 rfl (lv_at hl 0 rfl) ?_
  refine lv_iconst (v := 0) hx hb dX12_column_1 (by decide) ?_
  refine va_put (D := (dC, dI)) (ci := 12) (v := .int 0) (ty := .int) (C := RX12) (T := TX12) (N := 70) hx hb hts hiX12 tyX12 tyX12_ok nmX12 hown hK hP hD hS 0 rfl rfl 2 (by decide) w__fieldLink_RX12_145_ShellHeapModel_thrown_I_ (fun _ h9 => h9) rfl (by decide +kernel) rfl rfl (Nat.le_of_ble_eq_true rfl) dX12_column_2 (fun H_1 locs hP hD hS => ?_)
  obtain ⟨hP, hD⟩ := z_s_0_2 hP hD
  refine lv_aload_n hx hb dX12_column_5 rfl (lv_at hl 0 rfl) ?_
  refine va_get (D := (dC, dI)) (ci := 12) (v := .int mc) (C := RX12) (T := TX12) (N := 70) hx hb hts hiX12 hown hK hP 0 rfl rfl 19 (by decide) w__fieldLink_RX12_181_ShellHeapModel_columns_I_ (fun _ h9 => h9) rfl dX12_column_6 ?_
  refine lv_bipush (v := 10) hx hb dX12_column_9 (by decide) ?_
  refine lv_icmp_eq (tgt := 38) hx hb dX12_column_11 (by decide) (fun c_2 => ?_) (fun c_2 => ?_)
  · have k_3 : (mc).toInt = (10 : Int) := z_eq c_2
    refine lv_iconst (v := (-1)) hx hb dX12_column_38 (by decide) ?_
    refine z_backQ hQQ ?_
    have hP9 := hP
    have hD9 := hD
    have hK9 := hK.sub (tys' := []) [] rfl
    refine W.widen (k := 0) (n := 0) (Nat.le_of_ble_eq_true rfl) (Nat.le_of_ble_eq_true rfl) ?_
    exact W.iret (v := (-1)) hx hb hr (fun t ht hW => ⟨⟨(-1), (), rfl, (show (-1) = v_coA mw mh mc fh1 fh2 p1 p2 from (v_coA_neg (v_cok_out (show ¬ ((0 : Int) ≤ p1.toInt ∧ p1.toInt < mw.toInt ∧ (0 : Int) ≤ p2.toInt ∧ p2.toInt < mh.toInt ∧ mc.toInt < (10 : Int)) by omega))).symm), ⟨0, mc, fh1, fh2, fh3, hB_mc, (show mc = v_coN mw mh mc fh1 fh2 p1 p2 from (v_coN_neg (v_cok_out (show ¬ ((0 : Int) ≤ p1.toInt ∧ p1.toInt < mw.toInt ∧ (0 : Int) ≤ p2.toInt ∧ p2.toInt < mh.toInt ∧ mc.toInt < (10 : Int)) by omega))).symm), (show fh1 = v_coX mw mh mc fh1 fh2 p1 p2 from (v_coX_neg (v_cok_out (show ¬ ((0 : Int) ≤ p1.toInt ∧ p1.toInt < mw.toInt ∧ (0 : Int) ≤ p2.toInt ∧ p2.toInt < mh.toInt ∧ mc.toInt < (10 : Int)) by omega))).symm), (show fh2 = v_coY mw mh mc fh1 fh2 p1 p2 from (v_coY_neg (v_cok_out (show ¬ ((0 : Int) ≤ p1.toInt ∧ p1.toInt < mw.toInt ∧ (0 : Int) ≤ p2.toInt ∧ p2.toInt < mh.toInt ∧ mc.toInt < (10 : Int)) by omega))).symm), by rw [ht]; exact hP9, va_K.moved hW.alike hK9, hD9⟩⟩, hS.F ht⟩) hS.2.2 dX12_column_39
  · have k_4 : (mc).toInt ≠ (10 : Int) := z_ne c_2
    refine lv_iload_n hx hb dX12_column_14 rfl (lv_at hl 1 rfl) ?_
    refine lv_if_lt (tgt := 38) hx hb dX12_column_15 (by decide) (fun c_5 => ?_) (fun c_5 => ?_)
    · have k_6 : (p1).toInt < (0 : Int) := z_lt c_5
      refine lv_iconst (v := (-1)) hx hb dX12_column_38 (by decide) ?_
      refine z_backQ hQQ ?_
      have hP9 := hP
      have hD9 := hD
      have hK9 := hK.sub (tys' := []) [] rfl
      refine W.widen (k := 0) (n := 0) (Nat.le_of_ble_eq_true rfl) (Nat.le_of_ble_eq_true rfl) ?_
      exact W.iret (v := (-1)) hx hb hr (fun t ht hW => ⟨⟨(-1), (), rfl, (show (-1) = v_coA mw mh mc fh1 fh2 p1 p2 from (v_coA_neg (v_cok_out (show ¬ ((0 : Int) ≤ p1.toInt ∧ p1.toInt < mw.toInt ∧ (0 : Int) ≤ p2.toInt ∧ p2.toInt < mh.toInt ∧ mc.toInt < (10 : Int)) by omega))).symm), ⟨0, mc, fh1, fh2, fh3, hB_mc, (show mc = v_coN mw mh mc fh1 fh2 p1 p2 from (v_coN_neg (v_cok_out (show ¬ ((0 : Int) ≤ p1.toInt ∧ p1.toInt < mw.toInt ∧ (0 : Int) ≤ p2.toInt ∧ p2.toInt < mh.toInt ∧ mc.toInt < (10 : Int)) by omega))).symm), (show fh1 = v_coX mw mh mc fh1 fh2 p1 p2 from (v_coX_neg (v_cok_out (show ¬ ((0 : Int) ≤ p1.toInt ∧ p1.toInt < mw.toInt ∧ (0 : Int) ≤ p2.toInt ∧ p2.toInt < mh.toInt ∧ mc.toInt < (10 : Int)) by omega))).symm), (show fh2 = v_coY mw mh mc fh1 fh2 p1 p2 from (v_coY_neg (v_cok_out (show ¬ ((0 : Int) ≤ p1.toInt ∧ p1.toInt < mw.toInt ∧ (0 : Int) ≤ p2.toInt ∧ p2.toInt < mh.toInt ∧ mc.toInt < (10 : Int)) by omega))).symm), by rw [ht]; exact hP9, va_K.moved hW.alike hK9, hD9⟩⟩, hS.F ht⟩) hS.2.2 dX12_column_39
    · have k_7 : (p1).toInt ≥ (0 : Int) := z_nlt c_5
      refine lv_iload_n hx hb dX12_column_18 rfl (lv_at hl 1 rfl) ?_
      refine lv_aload_n hx hb dX12_column_19 rfl (lv_at hl 0 rfl) ?_
      refine va_get (D := (dC, dI)) (ci := 12) (v := .int mw) (C := RX12) (T := TX12) (N := 70) hx hb hts hiX12 hown hK hP 0 rfl rfl 17 (by decide) w__fieldLink_RX12_47_ShellHeapModel_wide_I_ (fun _ h9 => h9) rfl dX12_column_20 ?_
      refine lv_icmp_ge (tgt := 38) hx hb dX12_column_23 (by decide) (fun c_8 => ?_) (fun c_8 => ?_)
      · have k_9 : (mw).toInt ≤ (p1).toInt := z_le c_8
        refine lv_iconst (v := (-1)) hx hb dX12_column_38 (by decide) ?_
        refine z_backQ hQQ ?_
        have hP9 := hP
        have hD9 := hD
        have hK9 := hK.sub (tys' := []) [] rfl
        refine W.widen (k := 0) (n := 0) (Nat.le_of_ble_eq_true rfl) (Nat.le_of_ble_eq_true rfl) ?_
        exact W.iret (v := (-1)) hx hb hr (fun t ht hW => ⟨⟨(-1), (), rfl, (show (-1) = v_coA mw mh mc fh1 fh2 p1 p2 from (v_coA_neg (v_cok_out (show ¬ ((0 : Int) ≤ p1.toInt ∧ p1.toInt < mw.toInt ∧ (0 : Int) ≤ p2.toInt ∧ p2.toInt < mh.toInt ∧ mc.toInt < (10 : Int)) by omega))).symm), ⟨0, mc, fh1, fh2, fh3, hB_mc, (show mc = v_coN mw mh mc fh1 fh2 p1 p2 from (v_coN_neg (v_cok_out (show ¬ ((0 : Int) ≤ p1.toInt ∧ p1.toInt < mw.toInt ∧ (0 : Int) ≤ p2.toInt ∧ p2.toInt < mh.toInt ∧ mc.toInt < (10 : Int)) by omega))).symm), (show fh1 = v_coX mw mh mc fh1 fh2 p1 p2 from (v_coX_neg (v_cok_out (show ¬ ((0 : Int) ≤ p1.toInt ∧ p1.toInt < mw.toInt ∧ (0 : Int) ≤ p2.toInt ∧ p2.toInt < mh.toInt ∧ mc.toInt < (10 : Int)) by omega))).symm), (show fh2 = v_coY mw mh mc fh1 fh2 p1 p2 from (v_coY_neg (v_cok_out (show ¬ ((0 : Int) ≤ p1.toInt ∧ p1.toInt < mw.toInt ∧ (0 : Int) ≤ p2.toInt ∧ p2.toInt < mh.toInt ∧ mc.toInt < (10 : Int)) by omega))).symm), by rw [ht]; exact hP9, va_K.moved hW.alike hK9, hD9⟩⟩, hS.F ht⟩) hS.2.2 dX12_column_39
      · have k_10 : (mw).toInt > (p1).toInt := z_nle c_8
        refine lv_iload_n hx hb dX12_column_26 rfl (lv_at hl 2 rfl) ?_
        refine lv_if_lt (tgt := 38) hx hb dX12_column_27 (by decide) (fun c_11 => ?_) (fun c_11 => ?_)
        · have k_12 : (p2).toInt < (0 : Int) := z_lt c_11
          refine lv_iconst (v := (-1)) hx hb dX12_column_38 (by decide) ?_
          refine z_backQ hQQ ?_
          have hP9 := hP
          have hD9 := hD
          have hK9 := hK.sub (tys' := []) [] rfl
          refine W.widen (k := 0) (n := 0) (Nat.le_of_ble_eq_true rfl) (Nat.le_of_ble_eq_true rfl) ?_
          exact W.iret (v := (-1)) hx hb hr (fun t ht hW => ⟨⟨(-1), (), rfl, (show (-1) = v_coA mw mh mc fh1 fh2 p1 p2 from (v_coA_neg (v_cok_out (show ¬ ((0 : Int) ≤ p1.toInt ∧ p1.toInt < mw.toInt ∧ (0 : Int) ≤ p2.toInt ∧ p2.toInt < mh.toInt ∧ mc.toInt < (10 : Int)) by omega))).symm), ⟨0, mc, fh1, fh2, fh3, hB_mc, (show mc = v_coN mw mh mc fh1 fh2 p1 p2 from (v_coN_neg (v_cok_out (show ¬ ((0 : Int) ≤ p1.toInt ∧ p1.toInt < mw.toInt ∧ (0 : Int) ≤ p2.toInt ∧ p2.toInt < mh.toInt ∧ mc.toInt < (10 : Int)) by omega))).symm), (show fh1 = v_coX mw mh mc fh1 fh2 p1 p2 from (v_coX_neg (v_cok_out (show ¬ ((0 : Int) ≤ p1.toInt ∧ p1.toInt < mw.toInt ∧ (0 : Int) ≤ p2.toInt ∧ p2.toInt < mh.toInt ∧ mc.toInt < (10 : Int)) by omega))).symm), (show fh2 = v_coY mw mh mc fh1 fh2 p1 p2 from (v_coY_neg (v_cok_out (show ¬ ((0 : Int) ≤ p1.toInt ∧ p1.toInt < mw.toInt ∧ (0 : Int) ≤ p2.toInt ∧ p2.toInt < mh.toInt ∧ mc.toInt < (10 : Int)) by omega))).symm), by rw [ht]; exact hP9, va_K.moved hW.alike hK9, hD9⟩⟩, hS.F ht⟩) hS.2.2 dX12_column_39
        · have k_13 : (p2).toInt ≥ (0 : Int) := z_nlt c_11
          refine lv_iload_n hx hb dX12_column_30 rfl (lv_at hl 2 rfl) ?_
          refine lv_aload_n hx hb dX12_column_31 rfl (lv_at hl 0 rfl) ?_
          refine va_get (D := (dC, dI)) (ci := 12) (v := .int mh) (C := RX12) (T := TX12) (N := 70) hx hb hts hiX12 hown hK hP 0 rfl rfl 18 (by decide) w__fieldLink_RX12_51_ShellHeapModel_tall_I_ (fun _ h9 => h9) rfl dX12_column_32 ?_
          refine lv_icmp_lt (tgt := 40) hx hb dX12_column_35 (by decide) (fun c_14 => ?_) (fun c_14 => ?_)
          · have k_15 : (p2).toInt < (mh).toInt := z_lt c_14
            refine lv_iconst (v := 0) hx hb dX12_column_40 (by decide) ?_
            refine lv_istore_n (lv' := [(3, .int 0), (0, .ref h0), (1, .int p1), (2, .int p2)]) hx hb dX12_column_41 rfl hl (by decide) rfl (fun ls hl => ?_)
            have loop_16 : ∀ (n_17 : Nat) (i_19 : Int32) (H : Heap) (locs : List Loc) (ls : Array Slot), (11 - (i_19).toInt).toNat < n_17 → (((0 : Int) ≤ (i_19).toInt ∧ (i_19).toInt ≤ (10 : Int))) → (v_no fh1 fh2 (i_19).toInt p1 p2) → va_P (dC, dI) vwCl [(h0, .inr (12, [h0_0, h0_1, .int 0, h0_3, h0_4, h0_5, h0_6, h0_7, h0_8, h0_9, h0_10, h0_11, h0_12, h0_13, h0_14, h0_15, h0_16, .int mw, .int mh, .int mc, .ref h1, .ref h2, .ref h3, h0_23, h0_24, h0_25, h0_26, h0_27, h0_28, h0_29, h0_30, h0_31, h0_32, h0_33, h0_34, h0_35, h0_36, h0_37, h0_38, h0_39, h0_40, h0_41, h0_42, h0_43, h0_44, h0_45, h0_46, h0_47, h0_48, h0_49, h0_50, h0_51, h0_52, h0_53, h0_54, h0_55, h0_56, h0_57, h0_58, h0_59, h0_60, h0_61, h0_62, h0_63, h0_64, h0_65, h0_66, h0_67, h0_68, h0_69])), (h1, .inl (ch1, 10, .inl fh1)), (h2, .inl (ch2, 10, .inl fh2)), (h3, .inl (ch3, 120, .inl fh3))] H → va_D A [(h0, .inr (12, [h0_0, h0_1, .int 0, h0_3, h0_4, h0_5, h0_6, h0_7, h0_8, h0_9, h0_10, h0_11, h0_12, h0_13, h0_14, h0_15, h0_16, .int mw, .int mh, .int mc, .ref h1, .ref h2, .ref h3, h0_23, h0_24, h0_25, h0_26, h0_27, h0_28, h0_29, h0_30, h0_31, h0_32, h0_33, h0_34, h0_35, h0_36, h0_37, h0_38, h0_39, h0_40, h0_41, h0_42, h0_43, h0_44, h0_45, h0_46, h0_47, h0_48, h0_49, h0_50, h0_51, h0_52, h0_53, h0_54, h0_55, h0_56, h0_57, h0_58, h0_59, h0_60, h0_61, h0_62, h0_63, h0_64, h0_65, h0_66, h0_67, h0_68, h0_69])), (h1, .inl (ch1, 10, .inl fh1)), (h2, .inl (ch2, 10, .inl fh2)), (h3, .inl (ch3, 120, .inl fh3))] → va_S A s.heap H locs → lv_has ls 4 [(3, .int i_19), (0, .ref h0), (1, .int p1), (2, .int p2)] → W p l e ({ frames := 0, cells := 0, slots := 0, locals := 0 } : Room) s m ([.ref h0, .int p1, .int p2] : List Value).toArray below meth c H locs 0 0 QQ (F0 m 42 ls []) := by
              intro n_17
              induction n_17 with
              | zero => intro i_19 H locs ls hm; exact absurd hm (Nat.not_lt_zero _)
              | succ n_17 ih_18 =>
                intro i_19 H locs ls hm hF_20 hF_21 hP hD hS hl
                refine lv_iload_n hx hb dX12_column_42 rfl (lv_at hl 0 rfl) ?_
                refine lv_aload_n hx hb dX12_column_43 rfl (lv_at hl 1 rfl) ?_
                refine va_get (D := (dC, dI)) (ci := 12) (v := .int mc) (C := RX12) (T := TX12) (N := 70) hx hb hts hiX12 hown hK hP 0 rfl rfl 19 (by decide) w__fieldLink_RX12_181_ShellHeapModel_columns_I_ (fun _ h9 => h9) rfl dX12_column_44 ?_
                refine lv_icmp_ge (tgt := 78) hx hb dX12_column_47 (by decide) (fun c_22 => ?_) (fun c_22 => ?_)
                · have k_23 : (mc).toInt ≤ (i_19).toInt := z_le c_22
                  refine lv_aload_n hx hb dX12_column_78 rfl (lv_at hl 1 rfl) ?_
                  refine va_get (D := (dC, dI)) (ci := 12) (v := .ref h1) (C := RX12) (T := TX12) (N := 70) hx hb hts hiX12 hown hK hP 0 rfl rfl 20 (by decide) w__fieldLink_RX12_54_ShellHeapModel_columnX_I_ (fun _ h9 => h9) rfl dX12_column_79 ?_
                  refine lv_aload_n hx hb dX12_column_82 rfl (lv_at hl 1 rfl) ?_
                  refine va_get (D := (dC, dI)) (ci := 12) (v := .int mc) (C := RX12) (T := TX12) (N := 70) hx hb hts hiX12 hown hK hP 0 rfl rfl 19 (by decide) w__fieldLink_RX12_181_ShellHeapModel_columns_I_ (fun _ h9 => h9) rfl dX12_column_83 ?_
                  refine lv_iload_n hx hb dX12_column_86 rfl (lv_at hl 2 rfl) ?_
                  refine va_iast hx hb hK hP hD hS 1 0 rfl rfl (z_vpin (by omega) (by omega)) dX12_column_87 (fun H_24 locs hP hD hS => ?_)
                  obtain ⟨hP, hD⟩ := z_s_1 hP hD
                  refine lv_aload_n hx hb dX12_column_88 rfl (lv_at hl 1 rfl) ?_
                  refine va_get (D := (dC, dI)) (ci := 12) (v := .ref h2) (C := RX12) (T := TX12) (N := 70) hx hb hts hiX12 hown hK hP 0 rfl rfl 21 (by decide) w__fieldLink_RX12_57_ShellHeapModel_columnY_I_ (fun _ h9 => h9) rfl dX12_column_89 ?_
                  refine lv_aload_n hx hb dX12_column_92 rfl (lv_at hl 1 rfl) ?_
                  refine va_get (D := (dC, dI)) (ci := 12) (v := .int mc) (C := RX12) (T := TX12) (N := 70) hx hb hts hiX12 hown hK hP 0 rfl rfl 19 (by decide) w__fieldLink_RX12_181_ShellHeapModel_columns_I_ (fun _ h9 => h9) rfl dX12_column_93 ?_
                  refine lv_iload_n hx hb dX12_column_96 rfl (lv_at hl 3 rfl) ?_
                  refine va_iast hx hb hK hP hD hS 2 1 rfl rfl (z_vpin (by omega) (by omega)) dX12_column_97 (fun H_26 locs hP hD hS => ?_)
                  obtain ⟨hP, hD⟩ := z_s_2 hP hD
                  refine lv_iconst (v := 0) hx hb dX12_column_98 (by decide) ?_
                  refine lv_istore_n (lv' := [(3, .int 0), (0, .ref h0), (1, .int p1), (2, .int p2)]) hx hb dX12_column_99 rfl hl (by decide) rfl (fun ls hl => ?_)
                  have loop_28 : ∀ (n_29 : Nat) (i_31 : Int32) (f_32 : Nat → Int32) (H : Heap) (locs : List Loc) (ls : Array Slot), (13 - (i_31).toInt).toNat < n_29 → (((0 : Int) ≤ (i_31).toInt ∧ (i_31).toInt ≤ (12 : Int))) → va_P (dC, dI) vwCl [(h0, .inr (12, [h0_0, h0_1, .int 0, h0_3, h0_4, h0_5, h0_6, h0_7, h0_8, h0_9, h0_10, h0_11, h0_12, h0_13, h0_14, h0_15, h0_16, .int mw, .int mh, .int mc, .ref h1, .ref h2, .ref h3, h0_23, h0_24, h0_25, h0_26, h0_27, h0_28, h0_29, h0_30, h0_31, h0_32, h0_33, h0_34, h0_35, h0_36, h0_37, h0_38, h0_39, h0_40, h0_41, h0_42, h0_43, h0_44, h0_45, h0_46, h0_47, h0_48, h0_49, h0_50, h0_51, h0_52, h0_53, h0_54, h0_55, h0_56, h0_57, h0_58, h0_59, h0_60, h0_61, h0_62, h0_63, h0_64, h0_65, h0_66, h0_67, h0_68, h0_69])), (h1, .inl (ch1, 10, .inl (upd fh1 (mc : Int32).toNatClampNeg p1))), (h2, .inl (ch2, 10, .inl (upd fh2 (mc : Int32).toNatClampNeg p2))), (h3, .inl (ch3, 120, .inl f_32))] H → va_D A [(h0, .inr (12, [h0_0, h0_1, .int 0, h0_3, h0_4, h0_5, h0_6, h0_7, h0_8, h0_9, h0_10, h0_11, h0_12, h0_13, h0_14, h0_15, h0_16, .int mw, .int mh, .int mc, .ref h1, .ref h2, .ref h3, h0_23, h0_24, h0_25, h0_26, h0_27, h0_28, h0_29, h0_30, h0_31, h0_32, h0_33, h0_34, h0_35, h0_36, h0_37, h0_38, h0_39, h0_40, h0_41, h0_42, h0_43, h0_44, h0_45, h0_46, h0_47, h0_48, h0_49, h0_50, h0_51, h0_52, h0_53, h0_54, h0_55, h0_56, h0_57, h0_58, h0_59, h0_60, h0_61, h0_62, h0_63, h0_64, h0_65, h0_66, h0_67, h0_68, h0_69])), (h1, .inl (ch1, 10, .inl (upd fh1 (mc : Int32).toNatClampNeg p1))), (h2, .inl (ch2, 10, .inl (upd fh2 (mc : Int32).toNatClampNeg p2))), (h3, .inl (ch3, 120, .inl f_32))] → va_S A s.heap H locs → lv_has ls 4 [(3, .int i_31), (0, .ref h0), (1, .int p1), (2, .int p2)] → W p l e ({ frames := 0, cells := 0, slots := 0, locals := 0 } : Room) s m ([.ref h0, .int p1, .int p2] : List Value).toArray below meth c H locs 0 0 QQ (F0 m 100 ls []) := by
                    intro n_29
                    induction n_29 with
                    | zero => intro i_31 f_32 H locs ls hm; exact absurd hm (Nat.not_lt_zero _)
                    | succ n_29 ih_30 =>
                      intro i_31 f_32 H locs ls hm hF_33 hP hD hS hl
                      refine lv_iload_n hx hb dX12_column_100 rfl (lv_at hl 0 rfl) ?_
                      refine lv_bipush (v := 12) hx hb dX12_column_101 (by decide) ?_
                      refine lv_icmp_ge (tgt := 127) hx hb dX12_column_103 (by decide) (fun c_34 => ?_) (fun c_34 => ?_)
                      · have k_35 : (12 : Int) ≤ (i_31).toInt := z_le c_34
                        obtain rfl : i_31 = 12 := z_eq' (show (i_31).toInt = (12 : Int) by omega)
                        refine lv_aload_n hx hb dX12_column_127 rfl (lv_at hl 1 rfl) ?_
                        refine lv_dup hx hb dX12_column_128 rfl ?_
                        refine va_get (D := (dC, dI)) (ci := 12) (v := .int mc) (C := RX12) (T := TX12) (N := 70) hx hb hts hiX12 hown hK hP 0 rfl rfl 19 (by decide) w__fieldLink_RX12_181_ShellHeapModel_columns_I_ (fun _ h9 => h9) rfl dX12_column_129 ?_
                        refine lv_iconst (v := 1) hx hb dX12_column_132 (by decide) ?_
                        refine lv_iadd hx hb dX12_column_133 ?_
                        refine lv_topi (fun z_37 ez_37 => ?_)
                        have kz_37 : (z_37).toInt = (mc).toInt + (1 : Int) := by rw [ez_37]; exact z_add (a := (mc).toInt) (b := (1 : Int)) rfl rfl (z_al hB_mc.1 (by decide)) (z_ah hB_mc.2 (by decide))
                        refine va_put (D := (dC, dI)) (ci := 12) (v := .int z_37) (ty := .int) (C := RX12) (T := TX12) (N := 70) hx hb hts hiX12 tyX12 tyX12_ok nmX12 hown hK hP hD hS 0 rfl rfl 19 (by decide) w__fieldLink_RX12_181_ShellHeapModel_columns_I_ (fun _ h9 => h9) rfl (by decide +kernel) rfl rfl (Nat.le_of_ble_eq_true rfl) dX12_column_134 (fun H_38 locs hP hD hS => ?_)
                        obtain ⟨hP, hD⟩ := z_s_0_19 hP hD
                        refine lv_aload_n hx hb dX12_column_137 rfl (lv_at hl 1 rfl) ?_
                        refine va_get (D := (dC, dI)) (ci := 12) (v := .int z_37) (C := RX12) (T := TX12) (N := 70) hx hb hts hiX12 hown hK hP 0 rfl rfl 19 (by decide) w__fieldLink_RX12_181_ShellHeapModel_columns_I_ (fun _ h9 => h9) rfl dX12_column_138 ?_
                        refine lv_iconst (v := 1) hx hb dX12_column_141 (by decide) ?_
                        refine lv_isub hx hb dX12_column_142 ?_
                        refine lv_topi (fun z_39 ez_39 => ?_)
                        have kz_39 : (z_39).toInt = (z_37).toInt - (1 : Int) := by rw [ez_39]; exact z_sub (a := (z_37).toInt) (b := (1 : Int)) rfl rfl (by omega) (by omega)
                        refine z_backQ hQQ ?_
                        have hP9 := hP
                        have hD9 := hD
                        have hK9 := hK.sub (tys' := []) [] rfl
                        refine W.widen (k := 0) (n := 0) (Nat.le_of_ble_eq_true rfl) (Nat.le_of_ble_eq_true rfl) ?_
                        exact W.iret (v := z_39) hx hb hr (fun t ht hW => ⟨⟨z_39, (), rfl, (show z_39 = v_coA mw mh mc fh1 fh2 p1 p2 from (z_ii (show (z_39).toInt = (mc).toInt by omega)).trans (v_coA_pos (v_cok_mk (show ((0 : Int) ≤ p1.toInt ∧ p1.toInt < mw.toInt ∧ (0 : Int) ≤ p2.toInt ∧ p2.toInt < mh.toInt ∧ mc.toInt < (10 : Int)) by omega) (v_no_end hF_21 (by omega)))).symm), ⟨0, z_37, (upd fh1 (mc : Int32).toNatClampNeg p1), (upd fh2 (mc : Int32).toNatClampNeg p2), f_32, (by first | omega | decide), (show z_37 = v_coN mw mh mc fh1 fh2 p1 p2 from (show z_37 = mc + 1 from z_ii (by rw [z_add1 (by omega)]; omega)).trans (v_coN_pos (v_cok_mk (show ((0 : Int) ≤ p1.toInt ∧ p1.toInt < mw.toInt ∧ (0 : Int) ≤ p2.toInt ∧ p2.toInt < mh.toInt ∧ mc.toInt < (10 : Int)) by omega) (v_no_end hF_21 (by omega)))).symm), (show (upd fh1 (mc : Int32).toNatClampNeg p1) = v_coX mw mh mc fh1 fh2 p1 p2 from (v_coX_pos (v_cok_mk (show ((0 : Int) ≤ p1.toInt ∧ p1.toInt < mw.toInt ∧ (0 : Int) ≤ p2.toInt ∧ p2.toInt < mh.toInt ∧ mc.toInt < (10 : Int)) by omega) (v_no_end hF_21 (by omega)))).symm), (show (upd fh2 (mc : Int32).toNatClampNeg p2) = v_coY mw mh mc fh1 fh2 p1 p2 from (v_coY_pos (v_cok_mk (show ((0 : Int) ≤ p1.toInt ∧ p1.toInt < mw.toInt ∧ (0 : Int) ≤ p2.toInt ∧ p2.toInt < mh.toInt ∧ mc.toInt < (10 : Int)) by omega) (v_no_end hF_21 (by omega)))).symm), by rw [ht]; exact hP9, va_K.moved hW.alike hK9, hD9⟩⟩, hS.F ht⟩) hS.2.2 dX12_column_143
                      · have k_40 : (12 : Int) > (i_31).toInt := z_nle c_34
                        refine lv_aload_n hx hb dX12_column_106 rfl (lv_at hl 1 rfl) ?_
                        refine va_get (D := (dC, dI)) (ci := 12) (v := .ref h3) (C := RX12) (T := TX12) (N := 70) hx hb hts hiX12 hown hK hP 0 rfl rfl 22 (by decide) w__fieldLink_RX12_60_ShellHeapModel_thickOf_I_ (fun _ h9 => h9) rfl dX12_column_107 ?_
                        refine lv_bipush (v := 12) hx hb dX12_column_110 (by decide) ?_
                        refine lv_aload_n hx hb dX12_column_112 rfl (lv_at hl 1 rfl) ?_
                        refine va_get (D := (dC, dI)) (ci := 12) (v := .int mc) (C := RX12) (T := TX12) (N := 70) hx hb hts hiX12 hown hK hP 0 rfl rfl 19 (by decide) w__fieldLink_RX12_181_ShellHeapModel_columns_I_ (fun _ h9 => h9) rfl dX12_column_113 ?_
                        refine lv_imul hx hb dX12_column_116 ?_
                        refine lv_topi (fun z_41 ez_41 => ?_)
                        have kz_41 : (z_41).toInt = (12 : Int) * (mc).toInt := by rw [ez_41]; exact z_mul (a := (12 : Int)) (b := (mc).toInt) rfl rfl (by omega) (by omega)
                        refine lv_iload_n hx hb dX12_column_117 rfl (lv_at hl 0 rfl) ?_
                        refine lv_iadd hx hb dX12_column_118 ?_
                        refine lv_topi (fun z_42 ez_42 => ?_)
                        have kz_42 : (z_42).toInt = (z_41).toInt + (i_31).toInt := by rw [ez_42]; exact z_add (a := (z_41).toInt) (b := (i_31).toInt) rfl rfl (by omega) (by omega)
                        refine lv_iconst (v := 0) hx hb dX12_column_119 (by decide) ?_
                        refine va_iast hx hb hK hP hD hS 3 2 rfl rfl (z_vpin (by omega) (by omega)) dX12_column_120 (fun H_43 locs hP hD hS => ?_)
                        obtain ⟨hP, hD⟩ := z_s_3 hP hD
                        generalize (upd f_32 (z_42 : Int32).toNatClampNeg 0) = f_44 at hP hD
                        obtain ⟨z_45, ez_45⟩ : ∃ y : Int32, y = i_31 + 1 := ⟨_, rfl⟩
                        have kz_45 : (z_45).toInt = (i_31).toInt + (1 : Int) := by rw [ez_45]; exact z_add (b := 1) rfl rfl (z_al hF_33.1 (by decide)) (z_ah hF_33.2 (by decide))
                        refine lv_iinc (v := z_45) (lv' := [(3, .int z_45), (0, .ref h0), (1, .int p1), (2, .int p2)]) hx hb dX12_column_121 hl (k := 0) rfl (by rw [ez_45]; rfl) (by decide) rfl (fun ls hl => ?_)
                        refine lv_goto (tgt := 100) hx hb dX12_column_124 (by decide) ?_
                        exact ih_30 z_45 f_44 _ _ _ (show (13 - (z_45).toInt).toNat < n_29 by omega) (show ((0 : Int) ≤ (z_45).toInt ∧ (z_45).toInt ≤ (12 : Int)) by omega) hP hD hS (lv_sub hl [0, 1, 2, 3] rfl)
                  exact loop_28 _ 0 fh3 _ _ _ (Nat.lt_succ_self _) (show ((0 : Int) ≤ (0 : Int) ∧ (0 : Int) ≤ (12 : Int)) by omega) hP hD hS hl
                · have k_46 : (mc).toInt > (i_19).toInt := z_nle c_22
                  refine lv_aload_n hx hb dX12_column_50 rfl (lv_at hl 1 rfl) ?_
                  refine va_get (D := (dC, dI)) (ci := 12) (v := .ref h1) (C := RX12) (T := TX12) (N := 70) hx hb hts hiX12 hown hK hP 0 rfl rfl 20 (by decide) w__fieldLink_RX12_54_ShellHeapModel_columnX_I_ (fun _ h9 => h9) rfl dX12_column_51 ?_
                  refine lv_iload_n hx hb dX12_column_54 rfl (lv_at hl 0 rfl) ?_
                  refine va_iald hx hb hK hP 1 0 rfl rfl (z_vpin (by omega) (by omega)) dX12_column_55 ?_
                  refine lv_topi (fun z_47 ez_47 => ?_)
                  refine lv_iload_n hx hb dX12_column_56 rfl (lv_at hl 2 rfl) ?_
                  refine lv_icmp_ne (tgt := 72) hx hb dX12_column_57 (by decide) (fun c_48 => ?_) (fun c_48 => ?_)
                  · have k_49 : (z_47).toInt ≠ (p1).toInt := z_ne c_48
                    obtain ⟨z_50, ez_50⟩ : ∃ y : Int32, y = i_19 + 1 := ⟨_, rfl⟩
                    have kz_50 : (z_50).toInt = (i_19).toInt + (1 : Int) := by rw [ez_50]; exact z_add (b := 1) rfl rfl (z_al hF_20.1 (by decide)) (z_ah hF_20.2 (by decide))
                    refine lv_iinc (v := z_50) (lv' := [(3, .int z_50), (0, .ref h0), (1, .int p1), (2, .int p2)]) hx hb dX12_column_72 hl (k := 0) rfl (by rw [ez_50]; rfl) (by decide) rfl (fun ls hl => ?_)
                    refine lv_goto (tgt := 42) hx hb dX12_column_75 (by decide) ?_
                    exact ih_18 z_50 _ _ _ (show (11 - (z_50).toInt).toNat < n_17 by omega) (show ((0 : Int) ≤ (z_50).toInt ∧ (z_50).toInt ≤ (10 : Int)) by omega) (show v_no fh1 fh2 (z_50).toInt p1 p2 from v_no_s hF_21 (by omega) (by omega) (by rw [← ez_47]; omega)) hP hD hS (lv_sub hl [0, 1, 2, 3] rfl)
                  · have k_51 : (z_47).toInt = (p1).toInt := z_eq c_48
                    refine lv_aload_n hx hb dX12_column_60 rfl (lv_at hl 1 rfl) ?_
                    refine va_get (D := (dC, dI)) (ci := 12) (v := .ref h2) (C := RX12) (T := TX12) (N := 70) hx hb hts hiX12 hown hK hP 0 rfl rfl 21 (by decide) w__fieldLink_RX12_57_ShellHeapModel_columnY_I_ (fun _ h9 => h9) rfl dX12_column_61 ?_
                    refine lv_iload_n hx hb dX12_column_64 rfl (lv_at hl 0 rfl) ?_
                    refine va_iald hx hb hK hP 2 1 rfl rfl (z_vpin (by omega) (by omega)) dX12_column_65 ?_
                    refine lv_topi (fun z_52 ez_52 => ?_)
                    refine lv_iload_n hx hb dX12_column_66 rfl (lv_at hl 3 rfl) ?_
                    refine lv_icmp_ne (tgt := 72) hx hb dX12_column_67 (by decide) (fun c_53 => ?_) (fun c_53 => ?_)
                    · have k_54 : (z_52).toInt ≠ (p2).toInt := z_ne c_53
                      obtain ⟨z_55, ez_55⟩ : ∃ y : Int32, y = i_19 + 1 := ⟨_, rfl⟩
                      have kz_55 : (z_55).toInt = (i_19).toInt + (1 : Int) := by rw [ez_55]; exact z_add (b := 1) rfl rfl (z_al hF_20.1 (by decide)) (z_ah hF_20.2 (by decide))
                      refine lv_iinc (v := z_55) (lv' := [(3, .int z_55), (0, .ref h0), (1, .int p1), (2, .int p2)]) hx hb dX12_column_72 hl (k := 0) rfl (by rw [ez_55]; rfl) (by decide) rfl (fun ls hl => ?_)
                      refine lv_goto (tgt := 42) hx hb dX12_column_75 (by decide) ?_
                      exact ih_18 z_55 _ _ _ (show (11 - (z_55).toInt).toNat < n_17 by omega) (show ((0 : Int) ≤ (z_55).toInt ∧ (z_55).toInt ≤ (10 : Int)) by omega) (show v_no fh1 fh2 (z_55).toInt p1 p2 from v_no_s hF_21 (by omega) (by omega) (by rw [← ez_47, ← ez_52]; omega)) hP hD hS (lv_sub hl [0, 1, 2, 3] rfl)
                    · have k_56 : (z_52).toInt = (p2).toInt := z_eq c_53
                      refine lv_iconst (v := (-1)) hx hb dX12_column_70 (by decide) ?_
                      refine z_backQ hQQ ?_
                      have hP9 := hP
                      have hD9 := hD
                      have hK9 := hK.sub (tys' := []) [] rfl
                      refine W.widen (k := 0) (n := 0) (Nat.le_of_ble_eq_true rfl) (Nat.le_of_ble_eq_true rfl) ?_
                      exact W.iret (v := (-1)) hx hb hr (fun t ht hW => ⟨⟨(-1), (), rfl, (show (-1) = v_coA mw mh mc fh1 fh2 p1 p2 from (v_coA_neg (v_cok_hit (xs := fh1) (ys := fh2) (i := i_19) (by omega) (by omega) (by rw [← ez_47, ← ez_52]; omega))).symm), ⟨0, mc, fh1, fh2, fh3, hB_mc, (show mc = v_coN mw mh mc fh1 fh2 p1 p2 from (v_coN_neg (v_cok_hit (xs := fh1) (ys := fh2) (i := i_19) (by omega) (by omega) (by rw [← ez_47, ← ez_52]; omega))).symm), (show fh1 = v_coX mw mh mc fh1 fh2 p1 p2 from (v_coX_neg (v_cok_hit (xs := fh1) (ys := fh2) (i := i_19) (by omega) (by omega) (by rw [← ez_47, ← ez_52]; omega))).symm), (show fh2 = v_coY mw mh mc fh1 fh2 p1 p2 from (v_coY_neg (v_cok_hit (xs := fh1) (ys := fh2) (i := i_19) (by omega) (by omega) (by rw [← ez_47, ← ez_52]; omega))).symm), by rw [ht]; exact hP9, va_K.moved hW.alike hK9, hD9⟩⟩, hS.F ht⟩) hS.2.2 dX12_column_71
            exact loop_16 _ 0 _ _ _ (Nat.lt_succ_self _) (show ((0 : Int) ≤ (0 : Int) ∧ (0 : Int) ≤ (10 : Int)) by omega) (show v_no fh1 fh2 (0 : Int) p1 p2 from v_no_0 (by decide)) hP hD hS hl
          · have k_57 : (p2).toInt ≥ (mh).toInt := z_nlt c_14
            refine lv_iconst (v := (-1)) hx hb dX12_column_38 (by decide) ?_
            refine z_backQ hQQ ?_
            have hP9 := hP
            have hD9 := hD
            have hK9 := hK.sub (tys' := []) [] rfl
            refine W.widen (k := 0) (n := 0) (Nat.le_of_ble_eq_true rfl) (Nat.le_of_ble_eq_true rfl) ?_
            exact W.iret (v := (-1)) hx hb hr (fun t ht hW => ⟨⟨(-1), (), rfl, (show (-1) = v_coA mw mh mc fh1 fh2 p1 p2 from (v_coA_neg (v_cok_out (show ¬ ((0 : Int) ≤ p1.toInt ∧ p1.toInt < mw.toInt ∧ (0 : Int) ≤ p2.toInt ∧ p2.toInt < mh.toInt ∧ mc.toInt < (10 : Int)) by omega))).symm), ⟨0, mc, fh1, fh2, fh3, hB_mc, (show mc = v_coN mw mh mc fh1 fh2 p1 p2 from (v_coN_neg (v_cok_out (show ¬ ((0 : Int) ≤ p1.toInt ∧ p1.toInt < mw.toInt ∧ (0 : Int) ≤ p2.toInt ∧ p2.toInt < mh.toInt ∧ mc.toInt < (10 : Int)) by omega))).symm), (show fh1 = v_coX mw mh mc fh1 fh2 p1 p2 from (v_coX_neg (v_cok_out (show ¬ ((0 : Int) ≤ p1.toInt ∧ p1.toInt < mw.toInt ∧ (0 : Int) ≤ p2.toInt ∧ p2.toInt < mh.toInt ∧ mc.toInt < (10 : Int)) by omega))).symm), (show fh2 = v_coY mw mh mc fh1 fh2 p1 p2 from (v_coY_neg (v_cok_out (show ¬ ((0 : Int) ≤ p1.toInt ∧ p1.toInt < mw.toInt ∧ (0 : Int) ≤ p2.toInt ∧ p2.toInt < mh.toInt ∧ mc.toInt < (10 : Int)) by omega))).symm), by rw [ht]; exact hP9, va_K.moved hW.alike hK9, hD9⟩⟩, hS.F ht⟩) hS.2.2 dX12_column_39
def u_s_X2_layG : List Cond := .code yX2_lay cX2_lay 3 (some .boolean) :: ([.methodLink RX2 46 yX2_isSide, .static yX2_isSide, .initialized RX2, .fieldLink RX2 9 "ShellHeap$Ground" "w" "I", .fieldLink RX2 15 "ShellHeap$Ground" "h" "I", .fieldLink RX2 34 "ShellHeap$Ground" "columns" "I"] ++ (wsX20 ++ (u_s_X2_isSideA ++ [])))
theorem gd_s_X2_layG : z_gd u_s_X2_layG := z_gdc (by decide +kernel) (z_gda gdX2 (z_gda gd_s_X2_isSideA (z_gd0)))
set_option maxRecDepth 20000 in
theorem gw_s_X2_layG_s_X2_isSideA_46 : GoodIn u_s_X2_layG (va_wsS RX2 46 yX2_isSide u_s_X2_isSideA) := z_gS (z_gr _ [1, 2, 3] rfl (by decide +kernel)) (fun w h => ⟨z_mc (z_mr (z_mr (z_ml h))), gd_s_X2_isSideA w h⟩)
set_option maxHeartbeats 4000000 in
set_option maxRecDepth 100000 in
theorem s_X2_layG (l : Launch) (dC : Nat → ClassId) (dI : Nat → Nat → Nat) (sz : Nat) (h0 : Nat) (p1 : Int32) (p2 : Int32) (gw : Int32) (gh : Int32) (h0_2 : Value) (h0_3 : Value) (h0_4 : Value) (h0_5 : Value) (h0_6 : Value) (gc : Int32) (h0_8 : Value) (h0_9 : Value) (h0_10 : Value) (hB_gw : ((2 : Int) ≤ (gw).toInt ∧ (gw).toInt ≤ (12 : Int))) (hB_gh : ((2 : Int) ≤ (gh).toInt ∧ (gh).toInt ≤ (12 : Int))) (hB_gc : ((0 : Int) ≤ (gc).toInt ∧ (gc).toInt ≤ (10 : Int))) : Met l yX2_lay u_s_X2_layG ({ frames := 1, cells := 0, slots := 0, locals := 20 }) (va_Pc [.ref h0, .int p1, .int p2] (z_C (dC, dI) vwCl [(h0, .inr (2, [.int gw, .int gh, h0_2, h0_3, h0_4, h0_5, h0_6, .int gc, h0_8, h0_9, h0_10]))] [] sz)) (va_Qi (fun (r : Int32) (_ : Unit) => r = v_heap p1 p2) (fun (_ : Unit) (t : State) => ∃ (n_h0_w : Int32), ∃ (n_h0_h : Int32), ∃ (n_h0_columns : Int32), ((2 : Int) ≤ (n_h0_w).toInt ∧ (n_h0_w).toInt ≤ (12 : Int)) ∧ ((2 : Int) ≤ (n_h0_h).toInt ∧ (n_h0_h).toInt ≤ (12 : Int)) ∧ ((0 : Int) ≤ (n_h0_columns).toInt ∧ (n_h0_columns).toInt ≤ (10 : Int)) ∧ (n_h0_w = v_hpW gw p1 p2) ∧ (n_h0_h = v_hpH gh p1 p2) ∧ (n_h0_columns = v_hpC gc p1 p2) ∧ va_P (dC, dI) vwCl [(h0, .inr (2, [.int n_h0_w, .int n_h0_h, h0_2, h0_3, h0_4, h0_5, h0_6, .int n_h0_columns, h0_8, h0_9, h0_10]))] t.heap ∧ va_K (dC, dI) vwCl [] t ∧ va_D (va_A [(h0, .inr (2, [.int gw, .int gh, h0_2, h0_3, h0_4, h0_5, h0_6, .int gc, h0_8, h0_9, h0_10]))] sz) [(h0, .inr (2, [.int n_h0_w, .int n_h0_h, h0_2, h0_3, h0_4, h0_5, h0_6, .int n_h0_columns, h0_8, h0_9, h0_10]))]) (va_A [(h0, .inr (2, [.int gw, .int gh, h0_2, h0_3, h0_4, h0_5, h0_6, .int gc, h0_8, h0_9, h0_10]))] sz)) 0 0 (va_A [(h0, .inr (2, [.int gw, .int gh, h0_2, h0_3, h0_4, h0_5, h0_6, .int gc, h0_8, h0_9, h0_10]))] sz) := by
  refine Met.ofW (cc := cX2_lay) (maxL := 3) (ret := (some .boolean)) (by decide) rfl ?_
  intro p e s m args below meth c s₁ B hml hv
  obtain ⟨rfl, hsz, hP, hK, hD0⟩ := hv
  have hx := B.exec
  have hb := B.bytes
  have hr := B.returns
  have hts := atoms_spec (ws := u_s_X2_layG) B.pre
  have hown : s.vm.findClass RX2 = some m.cls := findClass_of_methodNamed B.named
  have hlocks := B.notSynchronized
  subst hsz
  have hD := hD0.self (sz := s.heap.size)
  generalize hAe : va_A [(h0, .inr (2, [.int gw, .int gh, h0_2, h0_3, h0_4, h0_5, h0_6, .int gc, h0_8, h0_9, h0_10]))] s.heap.size = A at hD ⊢
  have hA : ∀ q : Nat, s.heap.size ≤ q → A q := fun q h => by rw [← hAe]; exact Or.inr h
  have hS : va_S A s.heap s.heap [] := va_S.rf
  have hP : va_P (dC, dI) vwCl [(h0, .inr (2, [.int gw, .int gh, h0_2, h0_3, h0_4, h0_5, h0_6, .int gc, h0_8, h0_9, h0_10]))] s.heap := hP
  have w__fieldLink_RX2_9_ShellHeap_Ground_w_I_ := hts (.fieldLink RX2 9 "ShellHeap$Ground" "w" "I") (z_mc (z_ml z_m3))
  have hiX2 := show ∀ w ∈ u_ws RX2 TX2 11, w ∈ u_s_X2_layG from fun w h => z_mc (z_mr (z_ml h))
  have w__fieldLink_RX2_15_ShellHeap_Ground_h_I_ := hts (.fieldLink RX2 15 "ShellHeap$Ground" "h" "I") (z_mc (z_ml z_m4))
  have w__fieldLink_RX2_34_ShellHeap_Ground_columns_I_ := hts (.fieldLink RX2 34 "ShellHeap$Ground" "columns" "I") (z_mc (z_ml z_m5))
  have krr_p1 := z_rng p1
  have krr_p2 := z_rng p2
  have hl := lv_entry ([.ref h0, .int p1, .int p2]) (n := 3) (Nat.le_of_ble_eq_true rfl)
  rw [lg_entry_eq]
  generalize (lg_sl ([.ref h0, .int p1, .int p2]) ++ List.replicate (3 - (lg_sl ([.ref h0, .int p1, .int p2])).length) Slot.unset).toArray = ls at hl ⊢
  have hl : lv_has ls 3 [(0, .ref h0), (1, .int p1), (2, .int p2)] := hl
  refine lv_iload_n hx hb dX2_lay_0 rfl (lv_at hl 1 rfl) ?_
  obtain ⟨hPc, hDc⟩ := z_sub2 (ws' := []) hP hD [] (by decide) rfl
  have hKc := hK
  have hFc := va_free (ws := []) (wc := []) (z_D0 _) hS hA [] rfl
  refine va_calli (va_runS (As := [.int p1]) (rest := []) ⟨hx, hb, hml, hown, hts⟩ (s_X2_isSideA l dC dI s.heap.size p1) (va_cwS 1 hts gw_s_X2_layG_s_X2_isSideA_46 rfl rfl rfl (by decide +kernel) ⟨Nat.le_of_ble_eq_true rfl, Nat.le_of_ble_eq_true rfl⟩) ⟨z_blind, z_pre hPc hKc hDc⟩ rfl rfl hl.1 rfl (lv_room (Nat.le_of_ble_eq_true rfl)) dX2_lay_1 ⟨Nat.le_of_ble_eq_true rfl, Nat.le_of_ble_eq_true rfl⟩) hS (fun q _ h => hFc q h) hFc (fun r_2 u t H_1 locs ht hvm hw_3 hB hz1 hk1 hS => ?_)
  replace hP := z_pure hP hk1
  clear hPc hDc hKc
  rcases hw_3 with ⟨rfl, hw_3⟩ | ⟨rfl, hw_3⟩
  · have hw_3 : (2 ≤ p1.toInt ∧ p1.toInt ≤ 12) := hw_3
    refine lv_if_eq (tgt := 14) hx hb dX2_lay_4 (by decide) (fun c_4 => absurd c_4 (by decide)) (fun _ => ?_)
    refine lv_iload_n hx hb dX2_lay_7 rfl (lv_at hl 2 rfl) ?_
    obtain ⟨hPc, hDc⟩ := z_sub2 (ws' := []) hP hD [] (by decide) rfl
    have hKc := hK
    have hFc := va_free (ws := []) (wc := []) (z_D0 _) hS hA [] rfl
    refine va_calli (va_runS (As := [.int p2]) (rest := []) ⟨hx, hb, hml, hown, hts⟩ (s_X2_isSideA l dC dI H_1.size p2) (va_cwS 1 hts gw_s_X2_layG_s_X2_isSideA_46 rfl rfl rfl (by decide +kernel) ⟨Nat.le_of_ble_eq_true rfl, Nat.le_of_ble_eq_true rfl⟩) ⟨z_blind, z_pre hPc hKc hDc⟩ rfl rfl hl.1 rfl (lv_room (Nat.le_of_ble_eq_true rfl)) dX2_lay_8 ⟨Nat.le_of_ble_eq_true rfl, Nat.le_of_ble_eq_true rfl⟩) hS (fun q _ h => hFc q h) hFc (fun r_6 u t H_5 locs ht hvm hw_7 hB hz1 hk1 hS => ?_)
    replace hP := z_pure hP hk1
    clear hPc hDc hKc
    rcases hw_7 with ⟨rfl, hw_7⟩ | ⟨rfl, hw_7⟩
    · have hw_7 : (2 ≤ p2.toInt ∧ p2.toInt ≤ 12) := hw_7
      refine lv_if_ne (tgt := 16) hx hb dX2_lay_11 (by decide) (fun _ => ?_) (fun c_8 => absurd c_8 (by decide))
      refine lv_aload_n hx hb dX2_lay_16 rfl (lv_at hl 0 rfl) ?_
      refine lv_iload_n hx hb dX2_lay_17 rfl (lv_at hl 1 rfl) ?_
      refine va_put (D := (dC, dI)) (ci := 2) (v := .int p1) (ty := .int) (C := RX2) (T := TX2) (N := 11) hx hb hts hiX2 tyX2 tyX2_ok nmX2 hown hK hP hD hS 0 rfl rfl 0 (by decide) w__fieldLink_RX2_9_ShellHeap_Ground_w_I_ (fun _ h9 => h9) rfl (by decide +kernel) rfl rfl (Nat.le_of_ble_eq_true rfl) dX2_lay_18 (fun H_9 locs hP hD hS => ?_)
      obtain ⟨hP, hD⟩ := z_s_0_0 hP hD
      refine lv_aload_n hx hb dX2_lay_21 rfl (lv_at hl 0 rfl) ?_
      refine lv_iload_n hx hb dX2_lay_22 rfl (lv_at hl 2 rfl) ?_
      refine va_put (D := (dC, dI)) (ci := 2) (v := .int p2) (ty := .int) (C := RX2) (T := TX2) (N := 11) hx hb hts hiX2 tyX2 tyX2_ok nmX2 hown hK hP hD hS 0 rfl rfl 1 (by decide) w__fieldLink_RX2_15_ShellHeap_Ground_h_I_ (fun _ h9 => h9) rfl (by decide +kernel) rfl rfl (Nat.le_of_ble_eq_true rfl) dX2_lay_23 (fun H_10 locs hP hD hS => ?_)
      obtain ⟨hP, hD⟩ := z_s_0_1 hP hD
      refine lv_aload_n hx hb dX2_lay_26 rfl (lv_at hl 0 rfl) ?_
      refine lv_iconst (v := 0) hx hb dX2_lay_27 (by decide) ?_
      refine va_put (D := (dC, dI)) (ci := 2) (v := .int 0) (ty := .int) (C := RX2) (T := TX2) (N := 11) hx hb hts hiX2 tyX2 tyX2_ok nmX2 hown hK hP hD hS 0 rfl rfl 7 (by decide) w__fieldLink_RX2_34_ShellHeap_Ground_columns_I_ (fun _ h9 => h9) rfl (by decide +kernel) rfl rfl (Nat.le_of_ble_eq_true rfl) dX2_lay_28 (fun H_11 locs hP hD hS => ?_)
      obtain ⟨hP, hD⟩ := z_s_0_7 hP hD
      refine lv_iconst (v := 1) hx hb dX2_lay_31 (by decide) ?_
      have hP9 := hP
      have hD9 := hD
      have hK9 := hK.sub (tys' := []) [] rfl
      refine W.widen (k := 0) (n := 0) (Nat.le_of_ble_eq_true rfl) (Nat.le_of_ble_eq_true rfl) ?_
      exact W.zret (v := 1) hx hb hr (by rfl) (fun t ht hW => ⟨⟨1, (), rfl, (show 1 = v_heap p1 p2 by unfold v_heap; rw [if_pos (by omega)]), ⟨p1, p2, 0, (by first | omega | decide), (by first | omega | decide), (by decide), (show p1 = v_hpW gw p1 p2 by unfold v_hpW; rw [if_pos (by omega)]), (show p2 = v_hpH gh p1 p2 by unfold v_hpH; rw [if_pos (by omega)]), (show 0 = v_hpC gc p1 p2 by unfold v_hpC; rw [if_pos (by omega)]), by rw [ht]; exact hP9, va_K.moved hW.alike hK9, hD9⟩⟩, hS.F ht⟩) hS.2.2 dX2_lay_32
    · have hw_7 : ¬ (2 ≤ p2.toInt ∧ p2.toInt ≤ 12) := hw_7
      refine lv_if_ne (tgt := 16) hx hb dX2_lay_11 (by decide) (fun c_12 => absurd c_12 (by decide)) (fun _ => ?_)
      refine lv_iconst (v := 0) hx hb dX2_lay_14 (by decide) ?_
      have hP9 := hP
      have hD9 := hD
      have hK9 := hK.sub (tys' := []) [] rfl
      refine W.widen (k := 0) (n := 0) (Nat.le_of_ble_eq_true rfl) (Nat.le_of_ble_eq_true rfl) ?_
      exact W.zret (v := 0) hx hb hr (by rfl) (fun t ht hW => ⟨⟨0, (), rfl, (show 0 = v_heap p1 p2 by unfold v_heap; rw [if_neg (by omega)]), ⟨gw, gh, gc, hB_gw, hB_gh, hB_gc, (show gw = v_hpW gw p1 p2 by unfold v_hpW; rw [if_neg (by omega)]), (show gh = v_hpH gh p1 p2 by unfold v_hpH; rw [if_neg (by omega)]), (show gc = v_hpC gc p1 p2 by unfold v_hpC; rw [if_neg (by omega)]), by rw [ht]; exact hP9, va_K.moved hW.alike hK9, hD9⟩⟩, hS.F ht⟩) hS.2.2 dX2_lay_15
  · have hw_3 : ¬ (2 ≤ p1.toInt ∧ p1.toInt ≤ 12) := hw_3
    refine lv_if_eq (tgt := 14) hx hb dX2_lay_4 (by decide) (fun _ => ?_) (fun c_13 => absurd (by decide) c_13)
    refine lv_iconst (v := 0) hx hb dX2_lay_14 (by decide) ?_
    have hP9 := hP
    have hD9 := hD
    have hK9 := hK.sub (tys' := []) [] rfl
    refine W.widen (k := 0) (n := 0) (Nat.le_of_ble_eq_true rfl) (Nat.le_of_ble_eq_true rfl) ?_
    exact W.zret (v := 0) hx hb hr (by rfl) (fun t ht hW => ⟨⟨0, (), rfl, (show 0 = v_heap p1 p2 by unfold v_heap; rw [if_neg (by omega)]), ⟨gw, gh, gc, hB_gw, hB_gh, hB_gc, (show gw = v_hpW gw p1 p2 by unfold v_hpW; rw [if_neg (by omega)]), (show gh = v_hpH gh p1 p2 by unfold v_hpH; rw [if_neg (by omega)]), (show gc = v_hpC gc p1 p2 by unfold v_hpC; rw [if_neg (by omega)]), by rw [ht]; exact hP9, va_K.moved hW.alike hK9, hD9⟩⟩, hS.F ht⟩) hS.2.2 dX2_lay_15
def u_s_X11_heapG : List Cond := .code yX11_heap cX11_heap 3 (some .boolean) :: ([.fieldLink RX11 35 "ShellHeap" "ground" "LShellHeap$Ground;", .methodLink RX11 174 yX2_lay, .instanceMethod yX2_lay, .selects RX2 yX2_lay yX2_lay, .initialized RX2] ++ (wsX110 ++ (u_s_X2_layG ++ [])))
set_option maxRecDepth 20000 in
theorem gw_s_X11_heapG_s_X2_layG_174 : GoodIn u_s_X11_heapG (wsV RX11 174 RX2 yX2_lay u_s_X2_layG) := z_gV (z_gr _ [2, 3, 4, 5] rfl (by decide +kernel)) (fun w h => ⟨z_mc (z_mr (z_mr (z_ml h))), gd_s_X2_layG w h⟩)
set_option maxHeartbeats 4000000 in
set_option maxRecDepth 100000 in
theorem s_X11_heapG (l : Launch) (dC : Nat → ClassId) (dI : Nat → Nat → Nat) (sz : Nat) (h0 : Nat) (p1 : Int32) (p2 : Int32) (h0_0 : Value) (h0_1 : Value) (h0_2 : Value) (h1 : Nat) (h0_4 : Value) (h0_5 : Value) (h0_6 : Value) (h0_7 : Value) (h0_8 : Value) (h0_9 : Value) (gw : Int32) (gh : Int32) (h1_2 : Value) (h1_3 : Value) (h1_4 : Value) (h1_5 : Value) (h1_6 : Value) (gc : Int32) (h1_8 : Value) (h1_9 : Value) (h1_10 : Value) (hB_gw : ((2 : Int) ≤ (gw).toInt ∧ (gw).toInt ≤ (12 : Int))) (hB_gh : ((2 : Int) ≤ (gh).toInt ∧ (gh).toInt ≤ (12 : Int))) (hB_gc : ((0 : Int) ≤ (gc).toInt ∧ (gc).toInt ≤ (10 : Int))) : Met l yX11_heap u_s_X11_heapG ({ frames := 2, cells := 0, slots := 0, locals := 42 }) (va_Pc [.ref h0, .int p1, .int p2] (z_C (dC, dI) vwCl [(h0, .inr (11, [h0_0, h0_1, h0_2, .ref h1, h0_4, h0_5, h0_6, h0_7, h0_8, h0_9])), (h1, .inr (2, [.int gw, .int gh, h1_2, h1_3, h1_4, h1_5, h1_6, .int gc, h1_8, h1_9, h1_10]))] [] sz)) (va_Qi (fun (r : Int32) (_ : Unit) => r = v_heap p1 p2) (fun (_ : Unit) (t : State) => ∃ (n_h1_w : Int32), ∃ (n_h1_h : Int32), ∃ (n_h1_columns : Int32), ((2 : Int) ≤ (n_h1_w).toInt ∧ (n_h1_w).toInt ≤ (12 : Int)) ∧ ((2 : Int) ≤ (n_h1_h).toInt ∧ (n_h1_h).toInt ≤ (12 : Int)) ∧ ((0 : Int) ≤ (n_h1_columns).toInt ∧ (n_h1_columns).toInt ≤ (10 : Int)) ∧ (n_h1_w = v_hpW gw p1 p2) ∧ (n_h1_h = v_hpH gh p1 p2) ∧ (n_h1_columns = v_hpC gc p1 p2) ∧ va_P (dC, dI) vwCl [(h0, .inr (11, [h0_0, h0_1, h0_2, .ref h1, h0_4, h0_5, h0_6, h0_7, h0_8, h0_9])), (h1, .inr (2, [.int n_h1_w, .int n_h1_h, h1_2, h1_3, h1_4, h1_5, h1_6, .int n_h1_columns, h1_8, h1_9, h1_10]))] t.heap ∧ va_K (dC, dI) vwCl [] t ∧ va_D (va_A [(h0, .inr (11, [h0_0, h0_1, h0_2, .ref h1, h0_4, h0_5, h0_6, h0_7, h0_8, h0_9])), (h1, .inr (2, [.int gw, .int gh, h1_2, h1_3, h1_4, h1_5, h1_6, .int gc, h1_8, h1_9, h1_10]))] sz) [(h0, .inr (11, [h0_0, h0_1, h0_2, .ref h1, h0_4, h0_5, h0_6, h0_7, h0_8, h0_9])), (h1, .inr (2, [.int n_h1_w, .int n_h1_h, h1_2, h1_3, h1_4, h1_5, h1_6, .int n_h1_columns, h1_8, h1_9, h1_10]))]) (va_A [(h0, .inr (11, [h0_0, h0_1, h0_2, .ref h1, h0_4, h0_5, h0_6, h0_7, h0_8, h0_9])), (h1, .inr (2, [.int gw, .int gh, h1_2, h1_3, h1_4, h1_5, h1_6, .int gc, h1_8, h1_9, h1_10]))] sz)) 0 0 (va_A [(h0, .inr (11, [h0_0, h0_1, h0_2, .ref h1, h0_4, h0_5, h0_6, h0_7, h0_8, h0_9])), (h1, .inr (2, [.int gw, .int gh, h1_2, h1_3, h1_4, h1_5, h1_6, .int gc, h1_8, h1_9, h1_10]))] sz) := by
  refine Met.ofW (cc := cX11_heap) (maxL := 3) (ret := (some .boolean)) (by decide) rfl ?_
  intro p e s m args below meth c s₁ B hml hv
  obtain ⟨rfl, hsz, hP, hK, hD0⟩ := hv
  have hx := B.exec
  have hb := B.bytes
  have hr := B.returns
  have hts := atoms_spec (ws := u_s_X11_heapG) B.pre
  have hown : s.vm.findClass RX11 = some m.cls := findClass_of_methodNamed B.named
  have hlocks := B.notSynchronized
  subst hsz
  have hD := hD0.self (sz := s.heap.size)
  generalize hAe : va_A [(h0, .inr (11, [h0_0, h0_1, h0_2, .ref h1, h0_4, h0_5, h0_6, h0_7, h0_8, h0_9])), (h1, .inr (2, [.int gw, .int gh, h1_2, h1_3, h1_4, h1_5, h1_6, .int gc, h1_8, h1_9, h1_10]))] s.heap.size = A at hD ⊢
  have hA : ∀ q : Nat, s.heap.size ≤ q → A q := fun q h => by rw [← hAe]; exact Or.inr h
  have hS : va_S A s.heap s.heap [] := va_S.rf
  have hP : va_P (dC, dI) vwCl [(h0, .inr (11, [h0_0, h0_1, h0_2, .ref h1, h0_4, h0_5, h0_6, h0_7, h0_8, h0_9])), (h1, .inr (2, [.int gw, .int gh, h1_2, h1_3, h1_4, h1_5, h1_6, .int gc, h1_8, h1_9, h1_10]))] s.heap := hP
  have w__fieldLink_RX11_35_ShellHeap_ground_LShellHeap_Ground_ := hts (.fieldLink RX11 35 "ShellHeap" "ground" "LShellHeap$Ground;") (z_mc (z_ml z_m0))
  have hiX11 := show ∀ w ∈ u_ws RX11 TX11 10, w ∈ u_s_X11_heapG from fun w h => z_mc (z_mr (z_ml h))
  have krr_p1 := z_rng p1
  have krr_p2 := z_rng p2
  have hl := lv_entry ([.ref h0, .int p1, .int p2]) (n := 3) (Nat.le_of_ble_eq_true rfl)
  rw [lg_entry_eq]
  generalize (lg_sl ([.ref h0, .int p1, .int p2]) ++ List.replicate (3 - (lg_sl ([.ref h0, .int p1, .int p2])).length) Slot.unset).toArray = ls at hl ⊢
  have hl : lv_has ls 3 [(0, .ref h0), (1, .int p1), (2, .int p2)] := hl
  refine lv_aload_n hx hb dX11_heap_0 rfl (lv_at hl 0 rfl) ?_
  refine va_get (D := (dC, dI)) (ci := 11) (v := .ref h1) (C := RX11) (T := TX11) (N := 10) hx hb hts hiX11 hown hK hP 0 rfl rfl 3 (by decide) w__fieldLink_RX11_35_ShellHeap_ground_LShellHeap_Ground_ (fun _ h9 => h9) rfl dX11_heap_1 ?_
  refine lv_iload_n hx hb dX11_heap_4 rfl (lv_at hl 1 rfl) ?_
  refine lv_iload_n hx hb dX11_heap_5 rfl (lv_at hl 2 rfl) ?_
  obtain ⟨hPc, hDc, hFc⟩ := z_sub3 (ws' := [(h1, .inr (2, [.int gw, .int gh, h1_2, h1_3, h1_4, h1_5, h1_6, .int gc, h1_8, h1_9, h1_10]))]) hP hD hS hA [1] (by decide) rfl
  have hKc := hK
  refine va_calli (va_runV (As := [.int p1, .int p2]) (rest := []) ⟨hx, hb, hml, hown, hts⟩ (s_X2_layG l dC dI s.heap.size h1 p1 p2 gw gh h1_2 h1_3 h1_4 h1_5 h1_6 gc h1_8 h1_9 h1_10 hB_gw hB_gh hB_gc) (cwV 2 hts gw_s_X11_heapG_s_X2_layG_174 rfl rfl rfl (by decide +kernel) ⟨Nat.le_of_ble_eq_true rfl, Nat.le_of_ble_eq_true rfl⟩) ⟨z_blind, va_recv hKc hPc (ci := 2) (q0 := 0) rfl rfl, z_pre hPc hKc hDc⟩ rfl rfl hl.1 rfl (lv_room (Nat.le_of_ble_eq_true rfl)) dX11_heap_6 ⟨Nat.le_of_ble_eq_true rfl, Nat.le_of_ble_eq_true rfl⟩) hS (fun q _ h => hFc q h) hFc (fun r_2 u t H_1 locs ht hvm hw_3 hB hz1 hk1 hS => ?_)
  obtain ⟨n_h0_w_4, n_h0_h_5, n_h0_columns_6, hp_7, hp_8, hp_9, hp_10, hp_11, hp_12, hP1, hK1, hD1⟩ := hB
  rw [ht] at hP1
  have hK1 := va_K.moved hvm.symm hK1
  obtain ⟨hP, hD⟩ := z_ap_1 (va_join (wr := [(h0, .inr (11, [h0_0, h0_1, h0_2, .ref h1, h0_4, h0_5, h0_6, h0_7, h0_8, h0_9]))]) hP hD [1] [0] rfl rfl (by decide) (by decide) hk1 hFc hP1 hD1)
  have hp_10 : n_h0_w_4 = v_hpW gw p1 p2 := hp_10
  have hp_11 : n_h0_h_5 = v_hpH gh p1 p2 := hp_11
  have hp_12 : n_h0_columns_6 = v_hpC gc p1 p2 := hp_12
  clear hPc hDc hKc
  have kb_r_2 : (0 : Int) ≤ (r_2).toInt ∧ (r_2).toInt ≤ (1 : Int) := by rw [hw_3]; unfold v_heap; split <;> decide
  have hP9 := hP
  have hD9 := hD
  have hK9 := hK.sub (tys' := []) [] rfl
  refine W.widen (k := 0) (n := 0) (Nat.le_of_ble_eq_true rfl) (Nat.le_of_ble_eq_true rfl) ?_
  exact W.zret (v := r_2) hx hb hr (z_nb (by omega)) (fun t ht hW => ⟨⟨r_2, (), rfl, (show r_2 = v_heap p1 p2 from hw_3), ⟨n_h0_w_4, n_h0_h_5, n_h0_columns_6, hp_7, hp_8, hp_9, hp_10, hp_11, hp_12, by rw [ht]; exact hP9, va_K.moved hW.alike hK9, hD9⟩⟩, hS.F ht⟩) hS.2.2 dX11_heap_9
def u_s_X12_heapG : List Cond := .code yX12_heap cX12_heap 3 (some .boolean) :: ([.fieldLink RX12 145 "ShellHeapModel" "thrown" "I", .fieldLink RX12 47 "ShellHeapModel" "wide" "I", .fieldLink RX12 51 "ShellHeapModel" "tall" "I", .fieldLink RX12 181 "ShellHeapModel" "columns" "I"] ++ (wsX120 ++ []))
set_option maxHeartbeats 4000000 in
set_option maxRecDepth 100000 in
theorem s_X12_heapG (l : Launch) (dC : Nat → ClassId) (dI : Nat → Nat → Nat) (sz : Nat) (h0 : Nat) (p1 : Int32) (p2 : Int32) (h0_0 : Value) (h0_1 : Value) (mx : Int32) (h0_3 : Value) (h0_4 : Value) (h0_5 : Value) (h0_6 : Value) (h0_7 : Value) (h0_8 : Value) (h0_9 : Value) (h0_10 : Value) (h0_11 : Value) (h0_12 : Value) (h0_13 : Value) (h0_14 : Value) (h0_15 : Value) (h0_16 : Value) (mw : Int32) (mh : Int32) (mc : Int32) (h0_20 : Value) (h0_21 : Value) (h0_22 : Value) (h0_23 : Value) (h0_24 : Value) (h0_25 : Value) (h0_26 : Value) (h0_27 : Value) (h0_28 : Value) (h0_29 : Value) (h0_30 : Value) (h0_31 : Value) (h0_32 : Value) (h0_33 : Value) (h0_34 : Value) (h0_35 : Value) (h0_36 : Value) (h0_37 : Value) (h0_38 : Value) (h0_39 : Value) (h0_40 : Value) (h0_41 : Value) (h0_42 : Value) (h0_43 : Value) (h0_44 : Value) (h0_45 : Value) (h0_46 : Value) (h0_47 : Value) (h0_48 : Value) (h0_49 : Value) (h0_50 : Value) (h0_51 : Value) (h0_52 : Value) (h0_53 : Value) (h0_54 : Value) (h0_55 : Value) (h0_56 : Value) (h0_57 : Value) (h0_58 : Value) (h0_59 : Value) (h0_60 : Value) (h0_61 : Value) (h0_62 : Value) (h0_63 : Value) (h0_64 : Value) (h0_65 : Value) (h0_66 : Value) (h0_67 : Value) (h0_68 : Value) (h0_69 : Value) (hB_mw : ((2 : Int) ≤ (mw).toInt ∧ (mw).toInt ≤ (12 : Int))) (hB_mh : ((2 : Int) ≤ (mh).toInt ∧ (mh).toInt ≤ (12 : Int))) (hB_mc : ((0 : Int) ≤ (mc).toInt ∧ (mc).toInt ≤ (10 : Int))) : Met l yX12_heap u_s_X12_heapG ({ frames := 0, cells := 0, slots := 0, locals := 0 }) (va_Pc [.ref h0, .int p1, .int p2] (z_C (dC, dI) vwCl [(h0, .inr (12, [h0_0, h0_1, .int mx, h0_3, h0_4, h0_5, h0_6, h0_7, h0_8, h0_9, h0_10, h0_11, h0_12, h0_13, h0_14, h0_15, h0_16, .int mw, .int mh, .int mc, h0_20, h0_21, h0_22, h0_23, h0_24, h0_25, h0_26, h0_27, h0_28, h0_29, h0_30, h0_31, h0_32, h0_33, h0_34, h0_35, h0_36, h0_37, h0_38, h0_39, h0_40, h0_41, h0_42, h0_43, h0_44, h0_45, h0_46, h0_47, h0_48, h0_49, h0_50, h0_51, h0_52, h0_53, h0_54, h0_55, h0_56, h0_57, h0_58, h0_59, h0_60, h0_61, h0_62, h0_63, h0_64, h0_65, h0_66, h0_67, h0_68, h0_69]))] [] sz)) (va_Qi (fun (r : Int32) (_ : Unit) => r = v_heap p1 p2) (fun (_ : Unit) (t : State) => ∃ (n_h0_thrown : Int32), ∃ (n_h0_wide : Int32), ∃ (n_h0_tall : Int32), ∃ (n_h0_columns : Int32), ((2 : Int) ≤ (n_h0_wide).toInt ∧ (n_h0_wide).toInt ≤ (12 : Int)) ∧ ((2 : Int) ≤ (n_h0_tall).toInt ∧ (n_h0_tall).toInt ≤ (12 : Int)) ∧ ((0 : Int) ≤ (n_h0_columns).toInt ∧ (n_h0_columns).toInt ≤ (10 : Int)) ∧ (n_h0_wide = v_hpW mw p1 p2) ∧ (n_h0_tall = v_hpH mh p1 p2) ∧ (n_h0_columns = v_hpC mc p1 p2) ∧ va_P (dC, dI) vwCl [(h0, .inr (12, [h0_0, h0_1, .int n_h0_thrown, h0_3, h0_4, h0_5, h0_6, h0_7, h0_8, h0_9, h0_10, h0_11, h0_12, h0_13, h0_14, h0_15, h0_16, .int n_h0_wide, .int n_h0_tall, .int n_h0_columns, h0_20, h0_21, h0_22, h0_23, h0_24, h0_25, h0_26, h0_27, h0_28, h0_29, h0_30, h0_31, h0_32, h0_33, h0_34, h0_35, h0_36, h0_37, h0_38, h0_39, h0_40, h0_41, h0_42, h0_43, h0_44, h0_45, h0_46, h0_47, h0_48, h0_49, h0_50, h0_51, h0_52, h0_53, h0_54, h0_55, h0_56, h0_57, h0_58, h0_59, h0_60, h0_61, h0_62, h0_63, h0_64, h0_65, h0_66, h0_67, h0_68, h0_69]))] t.heap ∧ va_K (dC, dI) vwCl [] t ∧ va_D (va_A [(h0, .inr (12, [h0_0, h0_1, .int mx, h0_3, h0_4, h0_5, h0_6, h0_7, h0_8, h0_9, h0_10, h0_11, h0_12, h0_13, h0_14, h0_15, h0_16, .int mw, .int mh, .int mc, h0_20, h0_21, h0_22, h0_23, h0_24, h0_25, h0_26, h0_27, h0_28, h0_29, h0_30, h0_31, h0_32, h0_33, h0_34, h0_35, h0_36, h0_37, h0_38, h0_39, h0_40, h0_41, h0_42, h0_43, h0_44, h0_45, h0_46, h0_47, h0_48, h0_49, h0_50, h0_51, h0_52, h0_53, h0_54, h0_55, h0_56, h0_57, h0_58, h0_59, h0_60, h0_61, h0_62, h0_63, h0_64, h0_65, h0_66, h0_67, h0_68, h0_69]))] sz) [(h0, .inr (12, [h0_0, h0_1, .int n_h0_thrown, h0_3, h0_4, h0_5, h0_6, h0_7, h0_8, h0_9, h0_10, h0_11, h0_12, h0_13, h0_14, h0_15, h0_16, .int n_h0_wide, .int n_h0_tall, .int n_h0_columns, h0_20, h0_21, h0_22, h0_23, h0_24, h0_25, h0_26, h0_27, h0_28, h0_29, h0_30, h0_31, h0_32, h0_33, h0_34, h0_35, h0_36, h0_37, h0_38, h0_39, h0_40, h0_41, h0_42, h0_43, h0_44, h0_45, h0_46, h0_47, h0_48, h0_49, h0_50, h0_51, h0_52, h0_53, h0_54, h0_55, h0_56, h0_57, h0_58, h0_59, h0_60, h0_61, h0_62, h0_63, h0_64, h0_65, h0_66, h0_67, h0_68, h0_69]))]) (va_A [(h0, .inr (12, [h0_0, h0_1, .int mx, h0_3, h0_4, h0_5, h0_6, h0_7, h0_8, h0_9, h0_10, h0_11, h0_12, h0_13, h0_14, h0_15, h0_16, .int mw, .int mh, .int mc, h0_20, h0_21, h0_22, h0_23, h0_24, h0_25, h0_26, h0_27, h0_28, h0_29, h0_30, h0_31, h0_32, h0_33, h0_34, h0_35, h0_36, h0_37, h0_38, h0_39, h0_40, h0_41, h0_42, h0_43, h0_44, h0_45, h0_46, h0_47, h0_48, h0_49, h0_50, h0_51, h0_52, h0_53, h0_54, h0_55, h0_56, h0_57, h0_58, h0_59, h0_60, h0_61, h0_62, h0_63, h0_64, h0_65, h0_66, h0_67, h0_68, h0_69]))] sz)) 0 0 (va_A [(h0, .inr (12, [h0_0, h0_1, .int mx, h0_3, h0_4, h0_5, h0_6, h0_7, h0_8, h0_9, h0_10, h0_11, h0_12, h0_13, h0_14, h0_15, h0_16, .int mw, .int mh, .int mc, h0_20, h0_21, h0_22, h0_23, h0_24, h0_25, h0_26, h0_27, h0_28, h0_29, h0_30, h0_31, h0_32, h0_33, h0_34, h0_35, h0_36, h0_37, h0_38, h0_39, h0_40, h0_41, h0_42, h0_43, h0_44, h0_45, h0_46, h0_47, h0_48, h0_49, h0_50, h0_51, h0_52, h0_53, h0_54, h0_55, h0_56, h0_57, h0_58, h0_59, h0_60, h0_61, h0_62, h0_63, h0_64, h0_65, h0_66, h0_67, h0_68, h0_69]))] sz) := by
  refine Met.ofW (cc := cX12_heap) (maxL := 3) (ret := (some .boolean)) (by decide) rfl ?_
  intro p e s m args below meth c s₁ B hml hv
  obtain ⟨rfl, hsz, hP, hK, hD0⟩ := hv
  have hx := B.exec
  have hb := B.bytes
  have hr := B.returns
  have hts := atoms_spec (ws := u_s_X12_heapG) B.pre
  have hown : s.vm.findClass RX12 = some m.cls := findClass_of_methodNamed B.named
  have hlocks := B.notSynchronized
  subst hsz
  have hD := hD0.self (sz := s.heap.size)
  generalize hAe : va_A [(h0, .inr (12, [h0_0, h0_1, .int mx, h0_3, h0_4, h0_5, h0_6, h0_7, h0_8, h0_9, h0_10, h0_11, h0_12, h0_13, h0_14, h0_15, h0_16, .int mw, .int mh, .int mc, h0_20, h0_21, h0_22, h0_23, h0_24, h0_25, h0_26, h0_27, h0_28, h0_29, h0_30, h0_31, h0_32, h0_33, h0_34, h0_35, h0_36, h0_37, h0_38, h0_39, h0_40, h0_41, h0_42, h0_43, h0_44, h0_45, h0_46, h0_47, h0_48, h0_49, h0_50, h0_51, h0_52, h0_53, h0_54, h0_55, h0_56, h0_57, h0_58, h0_59, h0_60, h0_61, h0_62, h0_63, h0_64, h0_65, h0_66, h0_67, h0_68, h0_69]))] s.heap.size = A at hD ⊢
  have hA : ∀ q : Nat, s.heap.size ≤ q → A q := fun q h => by rw [← hAe]; exact Or.inr h
  have hS : va_S A s.heap s.heap [] := va_S.rf
  have hP : va_P (dC, dI) vwCl [(h0, .inr (12, [h0_0, h0_1, .int mx, h0_3, h0_4, h0_5, h0_6, h0_7, h0_8, h0_9, h0_10, h0_11, h0_12, h0_13, h0_14, h0_15, h0_16, .int mw, .int mh, .int mc, h0_20, h0_21, h0_22, h0_23, h0_24, h0_25, h0_26, h0_27, h0_28, h0_29, h0_30, h0_31, h0_32, h0_33, h0_34, h0_35, h0_36, h0_37, h0_38, h0_39, h0_40, h0_41, h0_42, h0_43, h0_44, h0_45, h0_46, h0_47, h0_48, h0_49, h0_50, h0_51, h0_52, h0_53, h0_54, h0_55, h0_56, h0_57, h0_58, h0_59, h0_60, h0_61, h0_62, h0_63, h0_64, h0_65, h0_66, h0_67, h0_68, h0_69]))] s.heap := hP
  have w__fieldLink_RX12_145_ShellHeapModel_thrown_I_ := hts (.fieldLink RX12 145 "ShellHeapModel" "thrown" "I") (z_mc (z_ml z_m0))
  have hiX12 := show ∀ w ∈ u_ws RX12 TX12 70, w ∈ u_s_X12_heapG from fun w h => z_mc (z_mr (z_ml h))
  have w__fieldLink_RX12_47_ShellHeapModel_wide_I_ := hts (.fieldLink RX12 47 "ShellHeapModel" "wide" "I") (z_mc (z_ml z_m1))
  have w__fieldLink_RX12_51_ShellHeapModel_tall_I_ := hts (.fieldLink RX12 51 "ShellHeapModel" "tall" "I") (z_mc (z_ml z_m2))
  have w__fieldLink_RX12_181_ShellHeapModel_columns_I_ := hts (.fieldLink RX12 181 "ShellHeapModel" "columns" "I") (z_mc (z_ml z_m3))
  have krr_p1 := z_rng p1
  have krr_p2 := z_rng p2
  have hl := lv_entry ([.ref h0, .int p1, .int p2]) (n := 3) (Nat.le_of_ble_eq_true rfl)
  rw [lg_entry_eq]
  generalize (lg_sl ([.ref h0, .int p1, .int p2]) ++ List.replicate (3 - (lg_sl ([.ref h0, .int p1, .int p2])).length) Slot.unset).toArray = ls at hl ⊢
  have hl : lv_has ls 3 [(0, .ref h0), (1, .int p1), (2, .int p2)] := hl
  refine lv_aload_n hx hb dX12_heap_0 rfl (lv_at hl 0 rfl) ?_
  refine lv_iconst (v := 0) hx hb dX12_heap_1 (by decide) ?_
  refine va_put (D := (dC, dI)) (ci := 12) (v := .int 0) (ty := .int) (C := RX12) (T := TX12) (N := 70) hx hb hts hiX12 tyX12 tyX12_ok nmX12 hown hK hP hD hS 0 rfl rfl 2 (by decide) w__fieldLink_RX12_145_ShellHeapModel_thrown_I_ (fun _ h9 => h9) rfl (by decide +kernel) rfl rfl (Nat.le_of_ble_eq_true rfl) dX12_heap_2 (fun H_1 locs hP hD hS => ?_)
  obtain ⟨hP, hD⟩ := z_s_0_2 hP hD
  refine lv_iload_n hx hb dX12_heap_5 rfl (lv_at hl 1 rfl) ?_
  refine lv_iconst (v := 2) hx hb dX12_heap_6 (by decide) ?_
  refine lv_icmp_lt (tgt := 27) hx hb dX12_heap_7 (by decide) (fun c_2 => ?_) (fun c_2 => ?_)
  · have k_3 : (p1).toInt < (2 : Int) := z_lt c_2
    refine lv_iconst (v := 0) hx hb dX12_heap_27 (by decide) ?_
    have hP9 := hP
    have hD9 := hD
    have hK9 := hK.sub (tys' := []) [] rfl
    refine W.widen (k := 0) (n := 0) (Nat.le_of_ble_eq_true rfl) (Nat.le_of_ble_eq_true rfl) ?_
    exact W.zret (v := 0) hx hb hr (by rfl) (fun t ht hW => ⟨⟨0, (), rfl, (show 0 = v_heap p1 p2 by unfold v_heap; rw [if_neg (by omega)]), ⟨0, mw, mh, mc, hB_mw, hB_mh, hB_mc, (show mw = v_hpW mw p1 p2 by unfold v_hpW; rw [if_neg (by omega)]), (show mh = v_hpH mh p1 p2 by unfold v_hpH; rw [if_neg (by omega)]), (show mc = v_hpC mc p1 p2 by unfold v_hpC; rw [if_neg (by omega)]), by rw [ht]; exact hP9, va_K.moved hW.alike hK9, hD9⟩⟩, hS.F ht⟩) hS.2.2 dX12_heap_28
  · have k_4 : (p1).toInt ≥ (2 : Int) := z_nlt c_2
    refine lv_iload_n hx hb dX12_heap_10 rfl (lv_at hl 1 rfl) ?_
    refine lv_bipush (v := 12) hx hb dX12_heap_11 (by decide) ?_
    refine lv_icmp_gt (tgt := 27) hx hb dX12_heap_13 (by decide) (fun c_5 => ?_) (fun c_5 => ?_)
    · have k_6 : (12 : Int) < (p1).toInt := z_lt c_5
      refine lv_iconst (v := 0) hx hb dX12_heap_27 (by decide) ?_
      have hP9 := hP
      have hD9 := hD
      have hK9 := hK.sub (tys' := []) [] rfl
      refine W.widen (k := 0) (n := 0) (Nat.le_of_ble_eq_true rfl) (Nat.le_of_ble_eq_true rfl) ?_
      exact W.zret (v := 0) hx hb hr (by rfl) (fun t ht hW => ⟨⟨0, (), rfl, (show 0 = v_heap p1 p2 by unfold v_heap; rw [if_neg (by omega)]), ⟨0, mw, mh, mc, hB_mw, hB_mh, hB_mc, (show mw = v_hpW mw p1 p2 by unfold v_hpW; rw [if_neg (by omega)]), (show mh = v_hpH mh p1 p2 by unfold v_hpH; rw [if_neg (by omega)]), (show mc = v_hpC mc p1 p2 by unfold v_hpC; rw [if_neg (by omega)]), by rw [ht]; exact hP9, va_K.moved hW.alike hK9, hD9⟩⟩, hS.F ht⟩) hS.2.2 dX12_heap_28
    · have k_7 : (12 : Int) ≥ (p1).toInt := z_nlt c_5
      refine lv_iload_n hx hb dX12_heap_16 rfl (lv_at hl 2 rfl) ?_
      refine lv_iconst (v := 2) hx hb dX12_heap_17 (by decide) ?_
      refine lv_icmp_lt (tgt := 27) hx hb dX12_heap_18 (by decide) (fun c_8 => ?_) (fun c_8 => ?_)
      · have k_9 : (p2).toInt < (2 : Int) := z_lt c_8
        refine lv_iconst (v := 0) hx hb dX12_heap_27 (by decide) ?_
        have hP9 := hP
        have hD9 := hD
        have hK9 := hK.sub (tys' := []) [] rfl
        refine W.widen (k := 0) (n := 0) (Nat.le_of_ble_eq_true rfl) (Nat.le_of_ble_eq_true rfl) ?_
        exact W.zret (v := 0) hx hb hr (by rfl) (fun t ht hW => ⟨⟨0, (), rfl, (show 0 = v_heap p1 p2 by unfold v_heap; rw [if_neg (by omega)]), ⟨0, mw, mh, mc, hB_mw, hB_mh, hB_mc, (show mw = v_hpW mw p1 p2 by unfold v_hpW; rw [if_neg (by omega)]), (show mh = v_hpH mh p1 p2 by unfold v_hpH; rw [if_neg (by omega)]), (show mc = v_hpC mc p1 p2 by unfold v_hpC; rw [if_neg (by omega)]), by rw [ht]; exact hP9, va_K.moved hW.alike hK9, hD9⟩⟩, hS.F ht⟩) hS.2.2 dX12_heap_28
      · have k_10 : (p2).toInt ≥ (2 : Int) := z_nlt c_8
        refine lv_iload_n hx hb dX12_heap_21 rfl (lv_at hl 2 rfl) ?_
        refine lv_bipush (v := 12) hx hb dX12_heap_22 (by decide) ?_
        refine lv_icmp_le (tgt := 29) hx hb dX12_heap_24 (by decide) (fun c_11 => ?_) (fun c_11 => ?_)
        · have k_12 : (p2).toInt ≤ (12 : Int) := z_le c_11
          refine lv_aload_n hx hb dX12_heap_29 rfl (lv_at hl 0 rfl) ?_
          refine lv_iload_n hx hb dX12_heap_30 rfl (lv_at hl 1 rfl) ?_
          refine va_put (D := (dC, dI)) (ci := 12) (v := .int p1) (ty := .int) (C := RX12) (T := TX12) (N := 70) hx hb hts hiX12 tyX12 tyX12_ok nmX12 hown hK hP hD hS 0 rfl rfl 17 (by decide) w__fieldLink_RX12_47_ShellHeapModel_wide_I_ (fun _ h9 => h9) rfl (by decide +kernel) rfl rfl (Nat.le_of_ble_eq_true rfl) dX12_heap_31 (fun H_13 locs hP hD hS => ?_)
          obtain ⟨hP, hD⟩ := z_s_0_17 hP hD
          refine lv_aload_n hx hb dX12_heap_34 rfl (lv_at hl 0 rfl) ?_
          refine lv_iload_n hx hb dX12_heap_35 rfl (lv_at hl 2 rfl) ?_
          refine va_put (D := (dC, dI)) (ci := 12) (v := .int p2) (ty := .int) (C := RX12) (T := TX12) (N := 70) hx hb hts hiX12 tyX12 tyX12_ok nmX12 hown hK hP hD hS 0 rfl rfl 18 (by decide) w__fieldLink_RX12_51_ShellHeapModel_tall_I_ (fun _ h9 => h9) rfl (by decide +kernel) rfl rfl (Nat.le_of_ble_eq_true rfl) dX12_heap_36 (fun H_14 locs hP hD hS => ?_)
          obtain ⟨hP, hD⟩ := z_s_0_18 hP hD
          refine lv_aload_n hx hb dX12_heap_39 rfl (lv_at hl 0 rfl) ?_
          refine lv_iconst (v := 0) hx hb dX12_heap_40 (by decide) ?_
          refine va_put (D := (dC, dI)) (ci := 12) (v := .int 0) (ty := .int) (C := RX12) (T := TX12) (N := 70) hx hb hts hiX12 tyX12 tyX12_ok nmX12 hown hK hP hD hS 0 rfl rfl 19 (by decide) w__fieldLink_RX12_181_ShellHeapModel_columns_I_ (fun _ h9 => h9) rfl (by decide +kernel) rfl rfl (Nat.le_of_ble_eq_true rfl) dX12_heap_41 (fun H_15 locs hP hD hS => ?_)
          obtain ⟨hP, hD⟩ := z_s_0_19 hP hD
          refine lv_iconst (v := 1) hx hb dX12_heap_44 (by decide) ?_
          have hP9 := hP
          have hD9 := hD
          have hK9 := hK.sub (tys' := []) [] rfl
          refine W.widen (k := 0) (n := 0) (Nat.le_of_ble_eq_true rfl) (Nat.le_of_ble_eq_true rfl) ?_
          exact W.zret (v := 1) hx hb hr (by rfl) (fun t ht hW => ⟨⟨1, (), rfl, (show 1 = v_heap p1 p2 by unfold v_heap; rw [if_pos (by omega)]), ⟨0, p1, p2, 0, (by first | omega | decide), (by first | omega | decide), (by decide), (show p1 = v_hpW mw p1 p2 by unfold v_hpW; rw [if_pos (by omega)]), (show p2 = v_hpH mh p1 p2 by unfold v_hpH; rw [if_pos (by omega)]), (show 0 = v_hpC mc p1 p2 by unfold v_hpC; rw [if_pos (by omega)]), by rw [ht]; exact hP9, va_K.moved hW.alike hK9, hD9⟩⟩, hS.F ht⟩) hS.2.2 dX12_heap_45
        · have k_16 : (p2).toInt > (12 : Int) := z_nle c_11
          refine lv_iconst (v := 0) hx hb dX12_heap_27 (by decide) ?_
          have hP9 := hP
          have hD9 := hD
          have hK9 := hK.sub (tys' := []) [] rfl
          refine W.widen (k := 0) (n := 0) (Nat.le_of_ble_eq_true rfl) (Nat.le_of_ble_eq_true rfl) ?_
          exact W.zret (v := 0) hx hb hr (by rfl) (fun t ht hW => ⟨⟨0, (), rfl, (show 0 = v_heap p1 p2 by unfold v_heap; rw [if_neg (by omega)]), ⟨0, mw, mh, mc, hB_mw, hB_mh, hB_mc, (show mw = v_hpW mw p1 p2 by unfold v_hpW; rw [if_neg (by omega)]), (show mh = v_hpH mh p1 p2 by unfold v_hpH; rw [if_neg (by omega)]), (show mc = v_hpC mc p1 p2 by unfold v_hpC; rw [if_neg (by omega)]), by rw [ht]; exact hP9, va_K.moved hW.alike hK9, hD9⟩⟩, hS.F ht⟩) hS.2.2 dX12_heap_28
def u_s_X0_hasLayerA : List Cond := .code yX0_hasLayer cX0_hasLayer 2 (some .boolean) :: ([.fieldLink RX0 28 "ShellHeap$Book" "layers" "I"] ++ (wsX00 ++ []))
theorem gd_s_X0_hasLayerA : z_gd u_s_X0_hasLayerA := z_gdc (by decide +kernel) (z_gda gdX0 (z_gd0))
set_option maxHeartbeats 4000000 in
set_option maxRecDepth 100000 in
theorem s_X0_hasLayerA (l : Launch) (dC : Nat → ClassId) (dI : Nat → Nat → Nat) (sz : Nat) (h0 : Nat) (p1 : Int32) (h0_0 : Value) (h0_1 : Value) (h0_2 : Value) (h0_3 : Value) (h0_4 : Value) (bl : Int32) (hB_bl : ((0 : Int) ≤ (bl).toInt ∧ (bl).toInt ≤ (12 : Int))) : Met l yX0_hasLayer u_s_X0_hasLayerA ({ frames := 0, cells := 0, slots := 0, locals := 0 }) (va_Pc [.ref h0, .int p1] (z_C (dC, dI) vwCl [(h0, .inr (0, [h0_0, h0_1, h0_2, h0_3, h0_4, .int bl]))] [] sz)) (va_Qi (fun (r : Int32) (_ : Unit) => (r = 1 ∧ (0 ≤ p1.toInt ∧ p1.toInt < bl.toInt)) ∨ (r = 0 ∧ ¬ (0 ≤ p1.toInt ∧ p1.toInt < bl.toInt))) (fun (_ : Unit) (_ : State) => True) (va_A [] sz)) 0 0 (va_A [] sz) := by
  refine Met.ofW (cc := cX0_hasLayer) (maxL := 2) (ret := (some .boolean)) (by decide) rfl ?_
  intro p e s m args below meth c s₁ B hml hv
  obtain ⟨rfl, hsz, hP, hK, hD0⟩ := hv
  have hx := B.exec
  have hb := B.bytes
  have hr := B.returns
  have hts := atoms_spec (ws := u_s_X0_hasLayerA) B.pre
  have hown : s.vm.findClass RX0 = some m.cls := findClass_of_methodNamed B.named
  have hlocks := B.notSynchronized
  subst hsz
  have hD := hD0
  generalize hAe : va_A [] s.heap.size = A
  have hA : ∀ q : Nat, s.heap.size ≤ q → A q := fun q h => by rw [← hAe]; exact Or.inr h
  have hS : va_S A s.heap s.heap [] := va_S.rf
  have hP : va_P (dC, dI) vwCl [(h0, .inr (0, [h0_0, h0_1, h0_2, h0_3, h0_4, .int bl]))] s.heap := hP
  have w__fieldLink_RX0_28_ShellHeap_Book_layers_I_ := hts (.fieldLink RX0 28 "ShellHeap$Book" "layers" "I") (z_mc (z_ml z_m0))
  have hiX0 := show ∀ w ∈ u_ws RX0 TX0 6, w ∈ u_s_X0_hasLayerA from fun w h => z_mc (z_mr (z_ml h))
  have krr_p1 := z_rng p1
  have hl := lv_entry ([.ref h0, .int p1]) (n := 2) (Nat.le_of_ble_eq_true rfl)
  rw [lg_entry_eq]
  generalize (lg_sl ([.ref h0, .int p1]) ++ List.replicate (2 - (lg_sl ([.ref h0, .int p1])).length) Slot.unset).toArray = ls at hl ⊢
  have hl : lv_has ls 2 [(0, .ref h0), (1, .int p1)] := hl
  refine lv_iload_n hx hb dX0_hasLayer_0 rfl (lv_at hl 1 rfl) ?_
  refine lv_if_lt (tgt := 16) hx hb dX0_hasLayer_1 (by decide) (fun c_1 => ?_) (fun c_1 => ?_)
  · have k_2 : (p1).toInt < (0 : Int) := z_lt c_1
    refine lv_iconst (v := 0) hx hb dX0_hasLayer_16 (by decide) ?_
    refine W.widen (k := 0) (n := 0) (Nat.le_of_ble_eq_true rfl) (Nat.le_of_ble_eq_true rfl) ?_
    exact W.zret (v := 0) hx hb hr (by rfl) (fun t ht hW => ⟨⟨0, (), rfl, (Or.inr (⟨rfl, by first | omega | decide⟩)), trivial⟩, hS.F ht⟩) hS.2.2 dX0_hasLayer_17
  · have k_3 : (p1).toInt ≥ (0 : Int) := z_nlt c_1
    refine lv_iload_n hx hb dX0_hasLayer_4 rfl (lv_at hl 1 rfl) ?_
    refine lv_aload_n hx hb dX0_hasLayer_5 rfl (lv_at hl 0 rfl) ?_
    refine va_get (D := (dC, dI)) (ci := 0) (v := .int bl) (C := RX0) (T := TX0) (N := 6) hx hb hts hiX0 hown hK hP 0 rfl rfl 5 (by decide) w__fieldLink_RX0_28_ShellHeap_Book_layers_I_ (fun _ h9 => h9) rfl dX0_hasLayer_6 ?_
    refine lv_icmp_ge (tgt := 16) hx hb dX0_hasLayer_9 (by decide) (fun c_4 => ?_) (fun c_4 => ?_)
    · have k_5 : (bl).toInt ≤ (p1).toInt := z_le c_4
      refine lv_iconst (v := 0) hx hb dX0_hasLayer_16 (by decide) ?_
      refine W.widen (k := 0) (n := 0) (Nat.le_of_ble_eq_true rfl) (Nat.le_of_ble_eq_true rfl) ?_
      exact W.zret (v := 0) hx hb hr (by rfl) (fun t ht hW => ⟨⟨0, (), rfl, (Or.inr (⟨rfl, by first | omega | decide⟩)), trivial⟩, hS.F ht⟩) hS.2.2 dX0_hasLayer_17
    · have k_6 : (bl).toInt > (p1).toInt := z_nle c_4
      refine lv_iconst (v := 1) hx hb dX0_hasLayer_12 (by decide) ?_
      refine lv_goto (tgt := 17) hx hb dX0_hasLayer_13 (by decide) ?_
      refine W.widen (k := 0) (n := 0) (Nat.le_of_ble_eq_true rfl) (Nat.le_of_ble_eq_true rfl) ?_
      exact W.zret (v := 1) hx hb hr (by rfl) (fun t ht hW => ⟨⟨1, (), rfl, (Or.inl (⟨rfl, by first | omega | decide⟩)), trivial⟩, hS.F ht⟩) hS.2.2 dX0_hasLayer_17
def u_s_X12_isLayerA : List Cond := .code yX12_isLayer cX12_isLayer 2 (some .boolean) :: ([.fieldLink RX12 151 "ShellHeapModel" "layers" "I"] ++ (wsX120 ++ []))
theorem gd_s_X12_isLayerA : z_gd u_s_X12_isLayerA := z_gdc (by decide +kernel) (z_gda gdX12 (z_gd0))
set_option maxHeartbeats 4000000 in
set_option maxRecDepth 100000 in
theorem s_X12_isLayerA (l : Launch) (dC : Nat → ClassId) (dI : Nat → Nat → Nat) (sz : Nat) (h0 : Nat) (p1 : Int32) (h0_0 : Value) (h0_1 : Value) (h0_2 : Value) (ml : Int32) (h0_4 : Value) (h0_5 : Value) (h0_6 : Value) (h0_7 : Value) (h0_8 : Value) (h0_9 : Value) (h0_10 : Value) (h0_11 : Value) (h0_12 : Value) (h0_13 : Value) (h0_14 : Value) (h0_15 : Value) (h0_16 : Value) (h0_17 : Value) (h0_18 : Value) (h0_19 : Value) (h0_20 : Value) (h0_21 : Value) (h0_22 : Value) (h0_23 : Value) (h0_24 : Value) (h0_25 : Value) (h0_26 : Value) (h0_27 : Value) (h0_28 : Value) (h0_29 : Value) (h0_30 : Value) (h0_31 : Value) (h0_32 : Value) (h0_33 : Value) (h0_34 : Value) (h0_35 : Value) (h0_36 : Value) (h0_37 : Value) (h0_38 : Value) (h0_39 : Value) (h0_40 : Value) (h0_41 : Value) (h0_42 : Value) (h0_43 : Value) (h0_44 : Value) (h0_45 : Value) (h0_46 : Value) (h0_47 : Value) (h0_48 : Value) (h0_49 : Value) (h0_50 : Value) (h0_51 : Value) (h0_52 : Value) (h0_53 : Value) (h0_54 : Value) (h0_55 : Value) (h0_56 : Value) (h0_57 : Value) (h0_58 : Value) (h0_59 : Value) (h0_60 : Value) (h0_61 : Value) (h0_62 : Value) (h0_63 : Value) (h0_64 : Value) (h0_65 : Value) (h0_66 : Value) (h0_67 : Value) (h0_68 : Value) (h0_69 : Value) (hB_ml : ((0 : Int) ≤ (ml).toInt ∧ (ml).toInt ≤ (12 : Int))) : Met l yX12_isLayer u_s_X12_isLayerA ({ frames := 0, cells := 0, slots := 0, locals := 0 }) (va_Pc [.ref h0, .int p1] (z_C (dC, dI) vwCl [(h0, .inr (12, [h0_0, h0_1, h0_2, .int ml, h0_4, h0_5, h0_6, h0_7, h0_8, h0_9, h0_10, h0_11, h0_12, h0_13, h0_14, h0_15, h0_16, h0_17, h0_18, h0_19, h0_20, h0_21, h0_22, h0_23, h0_24, h0_25, h0_26, h0_27, h0_28, h0_29, h0_30, h0_31, h0_32, h0_33, h0_34, h0_35, h0_36, h0_37, h0_38, h0_39, h0_40, h0_41, h0_42, h0_43, h0_44, h0_45, h0_46, h0_47, h0_48, h0_49, h0_50, h0_51, h0_52, h0_53, h0_54, h0_55, h0_56, h0_57, h0_58, h0_59, h0_60, h0_61, h0_62, h0_63, h0_64, h0_65, h0_66, h0_67, h0_68, h0_69]))] [] sz)) (va_Qi (fun (r : Int32) (_ : Unit) => (r = 1 ∧ (0 ≤ p1.toInt ∧ p1.toInt < ml.toInt)) ∨ (r = 0 ∧ ¬ (0 ≤ p1.toInt ∧ p1.toInt < ml.toInt))) (fun (_ : Unit) (_ : State) => True) (va_A [] sz)) 0 0 (va_A [] sz) := by
  refine Met.ofW (cc := cX12_isLayer) (maxL := 2) (ret := (some .boolean)) (by decide) rfl ?_
  intro p e s m args below meth c s₁ B hml hv
  obtain ⟨rfl, hsz, hP, hK, hD0⟩ := hv
  have hx := B.exec
  have hb := B.bytes
  have hr := B.returns
  have hts := atoms_spec (ws := u_s_X12_isLayerA) B.pre
  have hown : s.vm.findClass RX12 = some m.cls := findClass_of_methodNamed B.named
  have hlocks := B.notSynchronized
  subst hsz
  have hD := hD0
  generalize hAe : va_A [] s.heap.size = A
  have hA : ∀ q : Nat, s.heap.size ≤ q → A q := fun q h => by rw [← hAe]; exact Or.inr h
  have hS : va_S A s.heap s.heap [] := va_S.rf
  have hP : va_P (dC, dI) vwCl [(h0, .inr (12, [h0_0, h0_1, h0_2, .int ml, h0_4, h0_5, h0_6, h0_7, h0_8, h0_9, h0_10, h0_11, h0_12, h0_13, h0_14, h0_15, h0_16, h0_17, h0_18, h0_19, h0_20, h0_21, h0_22, h0_23, h0_24, h0_25, h0_26, h0_27, h0_28, h0_29, h0_30, h0_31, h0_32, h0_33, h0_34, h0_35, h0_36, h0_37, h0_38, h0_39, h0_40, h0_41, h0_42, h0_43, h0_44, h0_45, h0_46, h0_47, h0_48, h0_49, h0_50, h0_51, h0_52, h0_53, h0_54, h0_55, h0_56, h0_57, h0_58, h0_59, h0_60, h0_61, h0_62, h0_63, h0_64, h0_65, h0_66, h0_67, h0_68, h0_69]))] s.heap := hP
  have w__fieldLink_RX12_151_ShellHeapModel_layers_I_ := hts (.fieldLink RX12 151 "ShellHeapModel" "layers" "I") (z_mc (z_ml z_m0))
  have hiX12 := show ∀ w ∈ u_ws RX12 TX12 70, w ∈ u_s_X12_isLayerA from fun w h => z_mc (z_mr (z_ml h))
  have krr_p1 := z_rng p1
  have hl := lv_entry ([.ref h0, .int p1]) (n := 2) (Nat.le_of_ble_eq_true rfl)
  rw [lg_entry_eq]
  generalize (lg_sl ([.ref h0, .int p1]) ++ List.replicate (2 - (lg_sl ([.ref h0, .int p1])).length) Slot.unset).toArray = ls at hl ⊢
  have hl : lv_has ls 2 [(0, .ref h0), (1, .int p1)] := hl
  refine lv_iload_n hx hb dX12_isLayer_0 rfl (lv_at hl 1 rfl) ?_
  refine lv_if_lt (tgt := 16) hx hb dX12_isLayer_1 (by decide) (fun c_1 => ?_) (fun c_1 => ?_)
  · have k_2 : (p1).toInt < (0 : Int) := z_lt c_1
    refine lv_iconst (v := 0) hx hb dX12_isLayer_16 (by decide) ?_
    refine W.widen (k := 0) (n := 0) (Nat.le_of_ble_eq_true rfl) (Nat.le_of_ble_eq_true rfl) ?_
    exact W.zret (v := 0) hx hb hr (by rfl) (fun t ht hW => ⟨⟨0, (), rfl, (Or.inr (⟨rfl, by first | omega | decide⟩)), trivial⟩, hS.F ht⟩) hS.2.2 dX12_isLayer_17
  · have k_3 : (p1).toInt ≥ (0 : Int) := z_nlt c_1
    refine lv_iload_n hx hb dX12_isLayer_4 rfl (lv_at hl 1 rfl) ?_
    refine lv_aload_n hx hb dX12_isLayer_5 rfl (lv_at hl 0 rfl) ?_
    refine va_get (D := (dC, dI)) (ci := 12) (v := .int ml) (C := RX12) (T := TX12) (N := 70) hx hb hts hiX12 hown hK hP 0 rfl rfl 3 (by decide) w__fieldLink_RX12_151_ShellHeapModel_layers_I_ (fun _ h9 => h9) rfl dX12_isLayer_6 ?_
    refine lv_icmp_ge (tgt := 16) hx hb dX12_isLayer_9 (by decide) (fun c_4 => ?_) (fun c_4 => ?_)
    · have k_5 : (ml).toInt ≤ (p1).toInt := z_le c_4
      refine lv_iconst (v := 0) hx hb dX12_isLayer_16 (by decide) ?_
      refine W.widen (k := 0) (n := 0) (Nat.le_of_ble_eq_true rfl) (Nat.le_of_ble_eq_true rfl) ?_
      exact W.zret (v := 0) hx hb hr (by rfl) (fun t ht hW => ⟨⟨0, (), rfl, (Or.inr (⟨rfl, by first | omega | decide⟩)), trivial⟩, hS.F ht⟩) hS.2.2 dX12_isLayer_17
    · have k_6 : (ml).toInt > (p1).toInt := z_nle c_4
      refine lv_iconst (v := 1) hx hb dX12_isLayer_12 (by decide) ?_
      refine lv_goto (tgt := 17) hx hb dX12_isLayer_13 (by decide) ?_
      refine W.widen (k := 0) (n := 0) (Nat.le_of_ble_eq_true rfl) (Nat.le_of_ble_eq_true rfl) ?_
      exact W.zret (v := 1) hx hb hr (by rfl) (fun t ht hW => ⟨⟨1, (), rfl, (Or.inl (⟨rfl, by first | omega | decide⟩)), trivial⟩, hS.F ht⟩) hS.2.2 dX12_isLayer_17
def u_s_X11_thickA : List Cond := .code yX11_thick cX11_thick 4 (some .boolean) :: ([.fieldLink RX11 35 "ShellHeap" "ground" "LShellHeap$Ground;", .fieldLink RX11 181 "ShellHeap$Ground" "columns" "I", .fieldLink RX11 19 "ShellHeap" "book" "LShellHeap$Book;", .methodLink RX11 115 yX0_hasLayer, .instanceMethod yX0_hasLayer, .selects RX0 yX0_hasLayer yX0_hasLayer, .initialized RX0, .fieldLink RX11 184 "ShellHeap$Ground" "thickness" "[I"] ++ (wsX110 ++ (wsX20 ++ (u_s_X0_hasLayerA ++ []))))
set_option maxRecDepth 20000 in
theorem gw_s_X11_thickA_s_X0_hasLayerA_115 : GoodIn u_s_X11_thickA (wsV RX11 115 RX0 yX0_hasLayer u_s_X0_hasLayerA) := z_gV (z_gr _ [4, 5, 6, 7] rfl (by decide +kernel)) (fun w h => ⟨z_mc (z_mr (z_mr (z_mr (z_ml h)))), gd_s_X0_hasLayerA w h⟩)
set_option maxHeartbeats 4000000 in
set_option maxRecDepth 100000 in
theorem s_X11_thickA (l : Launch) (dC : Nat → ClassId) (dI : Nat → Nat → Nat) (sz : Nat) (h0 : Nat) (p1 : Int32) (p2 : Int32) (p3 : Int32) (h0_0 : Value) (hbk : Nat) (h0_2 : Value) (hg : Nat) (h0_4 : Value) (h0_5 : Value) (h0_6 : Value) (h0_7 : Value) (h0_8 : Value) (h0_9 : Value) (hg_0 : Value) (hg_1 : Value) (hg_2 : Value) (hg_3 : Value) (hg_4 : Value) (hg_5 : Value) (h1 : Nat) (gc : Int32) (hg_8 : Value) (hg_9 : Value) (hg_10 : Value) (hbk_0 : Value) (hbk_1 : Value) (hbk_2 : Value) (hbk_3 : Value) (hbk_4 : Value) (bl : Int32) (ch1 : ClassId) (fh1 : Nat → Int32) (hB_gc : ((0 : Int) ≤ (gc).toInt ∧ (gc).toInt ≤ (10 : Int))) (hB_bl : ((0 : Int) ≤ (bl).toInt ∧ (bl).toInt ≤ (12 : Int))) : Met l yX11_thick u_s_X11_thickA ({ frames := 1, cells := 0, slots := 0, locals := 21 }) (va_Pc [.ref h0, .int p1, .int p2, .int p3] (z_C (dC, dI) vwCl [(h0, .inr (11, [h0_0, .ref hbk, h0_2, .ref hg, h0_4, h0_5, h0_6, h0_7, h0_8, h0_9])), (hg, .inr (2, [hg_0, hg_1, hg_2, hg_3, hg_4, hg_5, .ref h1, .int gc, hg_8, hg_9, hg_10])), (hbk, .inr (0, [hbk_0, hbk_1, hbk_2, hbk_3, hbk_4, .int bl])), (h1, .inl (ch1, 120, .inl fh1))] [(ch1, .int)] sz)) (va_Qi (fun (r : Int32) (_ : Unit) => r = v_thA gc bl p1 p2 p3) (fun (_ : Unit) (t : State) => ∃ (g_h1 : Nat → Int32), va_P (dC, dI) vwCl [(h0, .inr (11, [h0_0, .ref hbk, h0_2, .ref hg, h0_4, h0_5, h0_6, h0_7, h0_8, h0_9])), (hg, .inr (2, [hg_0, hg_1, hg_2, hg_3, hg_4, hg_5, .ref h1, .int gc, hg_8, hg_9, hg_10])), (hbk, .inr (0, [hbk_0, hbk_1, hbk_2, hbk_3, hbk_4, .int bl])), (h1, .inl (ch1, 120, .inl g_h1))] t.heap ∧ va_K (dC, dI) vwCl [] t ∧ va_D (va_A [(h0, .inr (11, [h0_0, .ref hbk, h0_2, .ref hg, h0_4, h0_5, h0_6, h0_7, h0_8, h0_9])), (hg, .inr (2, [hg_0, hg_1, hg_2, hg_3, hg_4, hg_5, .ref h1, .int gc, hg_8, hg_9, hg_10])), (hbk, .inr (0, [hbk_0, hbk_1, hbk_2, hbk_3, hbk_4, .int bl])), (h1, .inl (ch1, 120, .inl fh1))] sz) [(h0, .inr (11, [h0_0, .ref hbk, h0_2, .ref hg, h0_4, h0_5, h0_6, h0_7, h0_8, h0_9])), (hg, .inr (2, [hg_0, hg_1, hg_2, hg_3, hg_4, hg_5, .ref h1, .int gc, hg_8, hg_9, hg_10])), (hbk, .inr (0, [hbk_0, hbk_1, hbk_2, hbk_3, hbk_4, .int bl])), (h1, .inl (ch1, 120, .inl g_h1))]) (va_A [(h0, .inr (11, [h0_0, .ref hbk, h0_2, .ref hg, h0_4, h0_5, h0_6, h0_7, h0_8, h0_9])), (hg, .inr (2, [hg_0, hg_1, hg_2, hg_3, hg_4, hg_5, .ref h1, .int gc, hg_8, hg_9, hg_10])), (hbk, .inr (0, [hbk_0, hbk_1, hbk_2, hbk_3, hbk_4, .int bl])), (h1, .inl (ch1, 120, .inl fh1))] sz)) 0 0 (va_A [(h0, .inr (11, [h0_0, .ref hbk, h0_2, .ref hg, h0_4, h0_5, h0_6, h0_7, h0_8, h0_9])), (hg, .inr (2, [hg_0, hg_1, hg_2, hg_3, hg_4, hg_5, .ref h1, .int gc, hg_8, hg_9, hg_10])), (hbk, .inr (0, [hbk_0, hbk_1, hbk_2, hbk_3, hbk_4, .int bl])), (h1, .inl (ch1, 120, .inl fh1))] sz) := by
  refine Met.ofW (cc := cX11_thick) (maxL := 4) (ret := (some .boolean)) (by decide) rfl ?_
  intro p e s m args below meth c s₁ B hml hv
  obtain ⟨rfl, hsz, hP, hK, hD0⟩ := hv
  have hx := B.exec
  have hb := B.bytes
  have hr := B.returns
  have hts := atoms_spec (ws := u_s_X11_thickA) B.pre
  have hown : s.vm.findClass RX11 = some m.cls := findClass_of_methodNamed B.named
  have hlocks := B.notSynchronized
  subst hsz
  have hD := hD0.self (sz := s.heap.size)
  generalize hAe : va_A [(h0, .inr (11, [h0_0, .ref hbk, h0_2, .ref hg, h0_4, h0_5, h0_6, h0_7, h0_8, h0_9])), (hg, .inr (2, [hg_0, hg_1, hg_2, hg_3, hg_4, hg_5, .ref h1, .int gc, hg_8, hg_9, hg_10])), (hbk, .inr (0, [hbk_0, hbk_1, hbk_2, hbk_3, hbk_4, .int bl])), (h1, .inl (ch1, 120, .inl fh1))] s.heap.size = A at hD ⊢
  have hA : ∀ q : Nat, s.heap.size ≤ q → A q := fun q h => by rw [← hAe]; exact Or.inr h
  have hS : va_S A s.heap s.heap [] := va_S.rf
  have hP : va_P (dC, dI) vwCl [(h0, .inr (11, [h0_0, .ref hbk, h0_2, .ref hg, h0_4, h0_5, h0_6, h0_7, h0_8, h0_9])), (hg, .inr (2, [hg_0, hg_1, hg_2, hg_3, hg_4, hg_5, .ref h1, .int gc, hg_8, hg_9, hg_10])), (hbk, .inr (0, [hbk_0, hbk_1, hbk_2, hbk_3, hbk_4, .int bl])), (h1, .inl (ch1, 120, .inl fh1))] s.heap := hP
  have w__fieldLink_RX11_35_ShellHeap_ground_LShellHeap_Ground_ := hts (.fieldLink RX11 35 "ShellHeap" "ground" "LShellHeap$Ground;") (z_mc (z_ml z_m0))
  have hiX11 := show ∀ w ∈ u_ws RX11 TX11 10, w ∈ u_s_X11_thickA from fun w h => z_mc (z_mr (z_ml h))
  have w__fieldLink_RX11_181_ShellHeap_Ground_columns_I_ := hts (.fieldLink RX11 181 "ShellHeap$Ground" "columns" "I") (z_mc (z_ml z_m1))
  have hiX2 := show ∀ w ∈ u_ws RX2 TX2 11, w ∈ u_s_X11_thickA from fun w h => z_mc (z_mr (z_mr (z_ml h)))
  have w__fieldLink_RX11_19_ShellHeap_book_LShellHeap_Book_ := hts (.fieldLink RX11 19 "ShellHeap" "book" "LShellHeap$Book;") (z_mc (z_ml z_m2))
  have w__fieldLink_RX11_184_ShellHeap_Ground_thickness_I_ := hts (.fieldLink RX11 184 "ShellHeap$Ground" "thickness" "[I") (z_mc (z_ml z_m7))
  have krr_p1 := z_rng p1
  have krr_p2 := z_rng p2
  have krr_p3 := z_rng p3
  have hl := lv_entry ([.ref h0, .int p1, .int p2, .int p3]) (n := 4) (Nat.le_of_ble_eq_true rfl)
  rw [lg_entry_eq]
  generalize (lg_sl ([.ref h0, .int p1, .int p2, .int p3]) ++ List.replicate (4 - (lg_sl ([.ref h0, .int p1, .int p2, .int p3])).length) Slot.unset).toArray = ls at hl ⊢
  have hl : lv_has ls 4 [(0, .ref h0), (1, .int p1), (2, .int p2), (3, .int p3)] := hl
  refine lv_iload_n hx hb dX11_thick_0 rfl (lv_at hl 1 rfl) ?_
  refine lv_if_lt (tgt := 37) hx hb dX11_thick_1 (by decide) (fun c_1 => ?_) (fun c_1 => ?_)
  · have k_2 : (p1).toInt < (0 : Int) := z_lt c_1
    refine lv_iconst (v := 0) hx hb dX11_thick_37 (by decide) ?_
    have hP9 := hP
    have hD9 := hD
    have hK9 := hK.sub (tys' := []) [] rfl
    refine W.widen (k := 0) (n := 0) (Nat.le_of_ble_eq_true rfl) (Nat.le_of_ble_eq_true rfl) ?_
    exact W.zret (v := 0) hx hb hr (by rfl) (fun t ht hW => ⟨⟨0, (), rfl, (show 0 = v_thA gc bl p1 p2 p3 by unfold v_thA; rw [if_neg (by omega)]), ⟨fh1, by rw [ht]; exact hP9, va_K.moved hW.alike hK9, hD9⟩⟩, hS.F ht⟩) hS.2.2 dX11_thick_38
  · have k_3 : (p1).toInt ≥ (0 : Int) := z_nlt c_1
    refine lv_iload_n hx hb dX11_thick_4 rfl (lv_at hl 1 rfl) ?_
    refine lv_aload_n hx hb dX11_thick_5 rfl (lv_at hl 0 rfl) ?_
    refine va_get (D := (dC, dI)) (ci := 11) (v := .ref hg) (C := RX11) (T := TX11) (N := 10) hx hb hts hiX11 hown hK hP 0 rfl rfl 3 (by decide) w__fieldLink_RX11_35_ShellHeap_ground_LShellHeap_Ground_ (fun _ h9 => h9) rfl dX11_thick_6 ?_
    refine va_get (D := (dC, dI)) (ci := 2) (v := .int gc) (C := RX2) (T := TX2) (N := 11) hx hb hts hiX2 hown hK hP 1 rfl rfl 7 (by decide) w__fieldLink_RX11_181_ShellHeap_Ground_columns_I_ (fun _ h9 => h9) rfl dX11_thick_9 ?_
    refine lv_icmp_ge (tgt := 37) hx hb dX11_thick_12 (by decide) (fun c_4 => ?_) (fun c_4 => ?_)
    · have k_5 : (gc).toInt ≤ (p1).toInt := z_le c_4
      refine lv_iconst (v := 0) hx hb dX11_thick_37 (by decide) ?_
      have hP9 := hP
      have hD9 := hD
      have hK9 := hK.sub (tys' := []) [] rfl
      refine W.widen (k := 0) (n := 0) (Nat.le_of_ble_eq_true rfl) (Nat.le_of_ble_eq_true rfl) ?_
      exact W.zret (v := 0) hx hb hr (by rfl) (fun t ht hW => ⟨⟨0, (), rfl, (show 0 = v_thA gc bl p1 p2 p3 by unfold v_thA; rw [if_neg (by omega)]), ⟨fh1, by rw [ht]; exact hP9, va_K.moved hW.alike hK9, hD9⟩⟩, hS.F ht⟩) hS.2.2 dX11_thick_38
    · have k_6 : (gc).toInt > (p1).toInt := z_nle c_4
      refine lv_aload_n hx hb dX11_thick_15 rfl (lv_at hl 0 rfl) ?_
      refine va_get (D := (dC, dI)) (ci := 11) (v := .ref hbk) (C := RX11) (T := TX11) (N := 10) hx hb hts hiX11 hown hK hP 0 rfl rfl 1 (by decide) w__fieldLink_RX11_19_ShellHeap_book_LShellHeap_Book_ (fun _ h9 => h9) rfl dX11_thick_16 ?_
      refine lv_iload_n hx hb dX11_thick_19 rfl (lv_at hl 2 rfl) ?_
      obtain ⟨hPc, hDc⟩ := z_sub2 (ws' := [(hbk, .inr (0, [hbk_0, hbk_1, hbk_2, hbk_3, hbk_4, .int bl]))]) hP hD [2] (by decide) rfl
      have hKc := hK.sub (tys' := []) [] rfl
      have hFc := va_free (ws := []) (wc := []) (z_D0 _) hS hA [] rfl
      refine va_calli (va_runV (As := [.int p2]) (rest := []) ⟨hx, hb, hml, hown, hts⟩ (s_X0_hasLayerA l dC dI s.heap.size hbk p2 hbk_0 hbk_1 hbk_2 hbk_3 hbk_4 bl hB_bl) (cwV 1 hts gw_s_X11_thickA_s_X0_hasLayerA_115 rfl rfl rfl (by decide +kernel) ⟨Nat.le_of_ble_eq_true rfl, Nat.le_of_ble_eq_true rfl⟩) ⟨z_blind, va_recv hKc hPc (ci := 0) (q0 := 0) rfl rfl, z_pre hPc hKc hDc⟩ rfl rfl hl.1 rfl (lv_room (Nat.le_of_ble_eq_true rfl)) dX11_thick_20 ⟨Nat.le_of_ble_eq_true rfl, Nat.le_of_ble_eq_true rfl⟩) hS (fun q _ h => hFc q h) hFc (fun r_8 u t H_7 locs ht hvm hw_9 hB hz1 hk1 hS => ?_)
      replace hP := z_pure hP hk1
      clear hPc hDc hKc
      rcases hw_9 with ⟨rfl, hw_9⟩ | ⟨rfl, hw_9⟩
      · have hw_9 : (0 ≤ p2.toInt ∧ p2.toInt < bl.toInt) := hw_9
        refine lv_if_eq (tgt := 37) hx hb dX11_thick_23 (by decide) (fun c_10 => absurd c_10 (by decide)) (fun _ => ?_)
        refine lv_iload_n hx hb dX11_thick_26 rfl (lv_at hl 3 rfl) ?_
        refine lv_if_lt (tgt := 37) hx hb dX11_thick_27 (by decide) (fun c_11 => ?_) (fun c_11 => ?_)
        · have k_12 : (p3).toInt < (0 : Int) := z_lt c_11
          refine lv_iconst (v := 0) hx hb dX11_thick_37 (by decide) ?_
          have hP9 := hP
          have hD9 := hD
          have hK9 := hK.sub (tys' := []) [] rfl
          refine W.widen (k := 0) (n := 0) (Nat.le_of_ble_eq_true rfl) (Nat.le_of_ble_eq_true rfl) ?_
          exact W.zret (v := 0) hx hb hr (by rfl) (fun t ht hW => ⟨⟨0, (), rfl, (show 0 = v_thA gc bl p1 p2 p3 by unfold v_thA; rw [if_neg (by omega)]), ⟨fh1, by rw [ht]; exact hP9, va_K.moved hW.alike hK9, hD9⟩⟩, hS.F ht⟩) hS.2.2 dX11_thick_38
        · have k_13 : (p3).toInt ≥ (0 : Int) := z_nlt c_11
          refine lv_iload_n hx hb dX11_thick_30 rfl (lv_at hl 3 rfl) ?_
          refine lv_sipush (v := 500) hx hb dX11_thick_31 (by decide) ?_
          refine lv_icmp_le (tgt := 39) hx hb dX11_thick_34 (by decide) (fun c_14 => ?_) (fun c_14 => ?_)
          · have k_15 : (p3).toInt ≤ (500 : Int) := z_le c_14
            refine lv_aload_n hx hb dX11_thick_39 rfl (lv_at hl 0 rfl) ?_
            refine va_get (D := (dC, dI)) (ci := 11) (v := .ref hg) (C := RX11) (T := TX11) (N := 10) hx hb hts hiX11 hown hK hP 0 rfl rfl 3 (by decide) w__fieldLink_RX11_35_ShellHeap_ground_LShellHeap_Ground_ (fun _ h9 => h9) rfl dX11_thick_40 ?_
            refine va_get (D := (dC, dI)) (ci := 2) (v := .ref h1) (C := RX2) (T := TX2) (N := 11) hx hb hts hiX2 hown hK hP 1 rfl rfl 6 (by decide) w__fieldLink_RX11_184_ShellHeap_Ground_thickness_I_ (fun _ h9 => h9) rfl dX11_thick_43 ?_
            refine lv_iload_n hx hb dX11_thick_46 rfl (lv_at hl 1 rfl) ?_
            refine lv_bipush (v := 12) hx hb dX11_thick_47 (by decide) ?_
            refine lv_imul hx hb dX11_thick_49 ?_
            refine lv_topi (fun z_16 ez_16 => ?_)
            have kz_16 : (z_16).toInt = (p1).toInt * (12 : Int) := by rw [ez_16]; exact z_mul (a := (p1).toInt) (b := (12 : Int)) rfl rfl (by omega) (by omega)
            refine lv_iload_n hx hb dX11_thick_50 rfl (lv_at hl 2 rfl) ?_
            refine lv_iadd hx hb dX11_thick_51 ?_
            refine lv_topi (fun z_17 ez_17 => ?_)
            have kz_17 : (z_17).toInt = (z_16).toInt + (p2).toInt := by rw [ez_17]; exact z_add (a := (z_16).toInt) (b := (p2).toInt) rfl rfl (by omega) (by omega)
            refine lv_iload_n hx hb dX11_thick_52 rfl (lv_at hl 3 rfl) ?_
            refine va_iast hx hb hK hP hD hS 3 0 rfl rfl (z_vpin (by omega) (by omega)) dX11_thick_53 (fun H_18 locs hP hD hS => ?_)
            obtain ⟨hP, hD⟩ := z_s_3 hP hD
            generalize (upd fh1 (z_17 : Int32).toNatClampNeg p3) = f_19 at hP hD
            refine lv_iconst (v := 1) hx hb dX11_thick_54 (by decide) ?_
            have hP9 := hP
            have hD9 := hD
            have hK9 := hK.sub (tys' := []) [] rfl
            refine W.widen (k := 0) (n := 0) (Nat.le_of_ble_eq_true rfl) (Nat.le_of_ble_eq_true rfl) ?_
            exact W.zret (v := 1) hx hb hr (by rfl) (fun t ht hW => ⟨⟨1, (), rfl, (show 1 = v_thA gc bl p1 p2 p3 by unfold v_thA; rw [if_pos (by omega)]), ⟨f_19, by rw [ht]; exact hP9, va_K.moved hW.alike hK9, hD9⟩⟩, hS.F ht⟩) hS.2.2 dX11_thick_55
          · have k_20 : (p3).toInt > (500 : Int) := z_nle c_14
            refine lv_iconst (v := 0) hx hb dX11_thick_37 (by decide) ?_
            have hP9 := hP
            have hD9 := hD
            have hK9 := hK.sub (tys' := []) [] rfl
            refine W.widen (k := 0) (n := 0) (Nat.le_of_ble_eq_true rfl) (Nat.le_of_ble_eq_true rfl) ?_
            exact W.zret (v := 0) hx hb hr (by rfl) (fun t ht hW => ⟨⟨0, (), rfl, (show 0 = v_thA gc bl p1 p2 p3 by unfold v_thA; rw [if_neg (by omega)]), ⟨fh1, by rw [ht]; exact hP9, va_K.moved hW.alike hK9, hD9⟩⟩, hS.F ht⟩) hS.2.2 dX11_thick_38
      · have hw_9 : ¬ (0 ≤ p2.toInt ∧ p2.toInt < bl.toInt) := hw_9
        refine lv_if_eq (tgt := 37) hx hb dX11_thick_23 (by decide) (fun _ => ?_) (fun c_21 => absurd (by decide) c_21)
        refine lv_iconst (v := 0) hx hb dX11_thick_37 (by decide) ?_
        have hP9 := hP
        have hD9 := hD
        have hK9 := hK.sub (tys' := []) [] rfl
        refine W.widen (k := 0) (n := 0) (Nat.le_of_ble_eq_true rfl) (Nat.le_of_ble_eq_true rfl) ?_
        exact W.zret (v := 0) hx hb hr (by rfl) (fun t ht hW => ⟨⟨0, (), rfl, (show 0 = v_thA gc bl p1 p2 p3 by unfold v_thA; rw [if_neg (by omega)]), ⟨fh1, by rw [ht]; exact hP9, va_K.moved hW.alike hK9, hD9⟩⟩, hS.F ht⟩) hS.2.2 dX11_thick_38
def u_s_X12_thickA : List Cond := .code yX12_thick cX12_thick 4 (some .boolean) :: ([.fieldLink RX12 145 "ShellHeapModel" "thrown" "I", .fieldLink RX12 181 "ShellHeapModel" "columns" "I", .methodLink RX12 157 yX12_isLayer, .instanceMethod yX12_isLayer, .selects RX12 yX12_isLayer yX12_isLayer, .initialized RX12, .fieldLink RX12 60 "ShellHeapModel" "thickOf" "[I"] ++ (wsX120 ++ (u_s_X12_isLayerA ++ [])))
set_option maxRecDepth 20000 in
theorem gw_s_X12_thickA_s_X12_isLayerA_157 : GoodIn u_s_X12_thickA (wsV RX12 157 RX12 yX12_isLayer u_s_X12_isLayerA) := z_gV (z_gr _ [3, 4, 5, 6] rfl (by decide +kernel)) (fun w h => ⟨z_mc (z_mr (z_mr (z_ml h))), gd_s_X12_isLayerA w h⟩)
set_option maxHeartbeats 4000000 in
set_option maxRecDepth 100000 in
theorem s_X12_thickA (l : Launch) (dC : Nat → ClassId) (dI : Nat → Nat → Nat) (sz : Nat) (h0 : Nat) (p1 : Int32) (p2 : Int32) (p3 : Int32) (h0_0 : Value) (h0_1 : Value) (mx : Int32) (ml : Int32) (h0_4 : Value) (h0_5 : Value) (h0_6 : Value) (h0_7 : Value) (h0_8 : Value) (h0_9 : Value) (h0_10 : Value) (h0_11 : Value) (h0_12 : Value) (h0_13 : Value) (h0_14 : Value) (h0_15 : Value) (h0_16 : Value) (h0_17 : Value) (h0_18 : Value) (mc : Int32) (h0_20 : Value) (h0_21 : Value) (h1 : Nat) (h0_23 : Value) (h0_24 : Value) (h0_25 : Value) (h0_26 : Value) (h0_27 : Value) (h0_28 : Value) (h0_29 : Value) (h0_30 : Value) (h0_31 : Value) (h0_32 : Value) (h0_33 : Value) (h0_34 : Value) (h0_35 : Value) (h0_36 : Value) (h0_37 : Value) (h0_38 : Value) (h0_39 : Value) (h0_40 : Value) (h0_41 : Value) (h0_42 : Value) (h0_43 : Value) (h0_44 : Value) (h0_45 : Value) (h0_46 : Value) (h0_47 : Value) (h0_48 : Value) (h0_49 : Value) (h0_50 : Value) (h0_51 : Value) (h0_52 : Value) (h0_53 : Value) (h0_54 : Value) (h0_55 : Value) (h0_56 : Value) (h0_57 : Value) (h0_58 : Value) (h0_59 : Value) (h0_60 : Value) (h0_61 : Value) (h0_62 : Value) (h0_63 : Value) (h0_64 : Value) (h0_65 : Value) (h0_66 : Value) (h0_67 : Value) (h0_68 : Value) (h0_69 : Value) (ch1 : ClassId) (fh1 : Nat → Int32) (hB_mc : ((0 : Int) ≤ (mc).toInt ∧ (mc).toInt ≤ (10 : Int))) (hB_ml : ((0 : Int) ≤ (ml).toInt ∧ (ml).toInt ≤ (12 : Int))) : Met l yX12_thick u_s_X12_thickA ({ frames := 1, cells := 0, slots := 0, locals := 21 }) (va_Pc [.ref h0, .int p1, .int p2, .int p3] (z_C (dC, dI) vwCl [(h0, .inr (12, [h0_0, h0_1, .int mx, .int ml, h0_4, h0_5, h0_6, h0_7, h0_8, h0_9, h0_10, h0_11, h0_12, h0_13, h0_14, h0_15, h0_16, h0_17, h0_18, .int mc, h0_20, h0_21, .ref h1, h0_23, h0_24, h0_25, h0_26, h0_27, h0_28, h0_29, h0_30, h0_31, h0_32, h0_33, h0_34, h0_35, h0_36, h0_37, h0_38, h0_39, h0_40, h0_41, h0_42, h0_43, h0_44, h0_45, h0_46, h0_47, h0_48, h0_49, h0_50, h0_51, h0_52, h0_53, h0_54, h0_55, h0_56, h0_57, h0_58, h0_59, h0_60, h0_61, h0_62, h0_63, h0_64, h0_65, h0_66, h0_67, h0_68, h0_69])), (h1, .inl (ch1, 120, .inl fh1))] [(ch1, .int)] sz)) (va_Qi (fun (r : Int32) (_ : Unit) => r = v_thA mc ml p1 p2 p3) (fun (_ : Unit) (t : State) => ∃ (n_h0_thrown : Int32), ∃ (g_h1 : Nat → Int32), va_P (dC, dI) vwCl [(h0, .inr (12, [h0_0, h0_1, .int n_h0_thrown, .int ml, h0_4, h0_5, h0_6, h0_7, h0_8, h0_9, h0_10, h0_11, h0_12, h0_13, h0_14, h0_15, h0_16, h0_17, h0_18, .int mc, h0_20, h0_21, .ref h1, h0_23, h0_24, h0_25, h0_26, h0_27, h0_28, h0_29, h0_30, h0_31, h0_32, h0_33, h0_34, h0_35, h0_36, h0_37, h0_38, h0_39, h0_40, h0_41, h0_42, h0_43, h0_44, h0_45, h0_46, h0_47, h0_48, h0_49, h0_50, h0_51, h0_52, h0_53, h0_54, h0_55, h0_56, h0_57, h0_58, h0_59, h0_60, h0_61, h0_62, h0_63, h0_64, h0_65, h0_66, h0_67, h0_68, h0_69])), (h1, .inl (ch1, 120, .inl g_h1))] t.heap ∧ va_K (dC, dI) vwCl [] t ∧ va_D (va_A [(h0, .inr (12, [h0_0, h0_1, .int mx, .int ml, h0_4, h0_5, h0_6, h0_7, h0_8, h0_9, h0_10, h0_11, h0_12, h0_13, h0_14, h0_15, h0_16, h0_17, h0_18, .int mc, h0_20, h0_21, .ref h1, h0_23, h0_24, h0_25, h0_26, h0_27, h0_28, h0_29, h0_30, h0_31, h0_32, h0_33, h0_34, h0_35, h0_36, h0_37, h0_38, h0_39, h0_40, h0_41, h0_42, h0_43, h0_44, h0_45, h0_46, h0_47, h0_48, h0_49, h0_50, h0_51, h0_52, h0_53, h0_54, h0_55, h0_56, h0_57, h0_58, h0_59, h0_60, h0_61, h0_62, h0_63, h0_64, h0_65, h0_66, h0_67, h0_68, h0_69])), (h1, .inl (ch1, 120, .inl fh1))] sz) [(h0, .inr (12, [h0_0, h0_1, .int n_h0_thrown, .int ml, h0_4, h0_5, h0_6, h0_7, h0_8, h0_9, h0_10, h0_11, h0_12, h0_13, h0_14, h0_15, h0_16, h0_17, h0_18, .int mc, h0_20, h0_21, .ref h1, h0_23, h0_24, h0_25, h0_26, h0_27, h0_28, h0_29, h0_30, h0_31, h0_32, h0_33, h0_34, h0_35, h0_36, h0_37, h0_38, h0_39, h0_40, h0_41, h0_42, h0_43, h0_44, h0_45, h0_46, h0_47, h0_48, h0_49, h0_50, h0_51, h0_52, h0_53, h0_54, h0_55, h0_56, h0_57, h0_58, h0_59, h0_60, h0_61, h0_62, h0_63, h0_64, h0_65, h0_66, h0_67, h0_68, h0_69])), (h1, .inl (ch1, 120, .inl g_h1))]) (va_A [(h0, .inr (12, [h0_0, h0_1, .int mx, .int ml, h0_4, h0_5, h0_6, h0_7, h0_8, h0_9, h0_10, h0_11, h0_12, h0_13, h0_14, h0_15, h0_16, h0_17, h0_18, .int mc, h0_20, h0_21, .ref h1, h0_23, h0_24, h0_25, h0_26, h0_27, h0_28, h0_29, h0_30, h0_31, h0_32, h0_33, h0_34, h0_35, h0_36, h0_37, h0_38, h0_39, h0_40, h0_41, h0_42, h0_43, h0_44, h0_45, h0_46, h0_47, h0_48, h0_49, h0_50, h0_51, h0_52, h0_53, h0_54, h0_55, h0_56, h0_57, h0_58, h0_59, h0_60, h0_61, h0_62, h0_63, h0_64, h0_65, h0_66, h0_67, h0_68, h0_69])), (h1, .inl (ch1, 120, .inl fh1))] sz)) 0 0 (va_A [(h0, .inr (12, [h0_0, h0_1, .int mx, .int ml, h0_4, h0_5, h0_6, h0_7, h0_8, h0_9, h0_10, h0_11, h0_12, h0_13, h0_14, h0_15, h0_16, h0_17, h0_18, .int mc, h0_20, h0_21, .ref h1, h0_23, h0_24, h0_25, h0_26, h0_27, h0_28, h0_29, h0_30, h0_31, h0_32, h0_33, h0_34, h0_35, h0_36, h0_37, h0_38, h0_39, h0_40, h0_41, h0_42, h0_43, h0_44, h0_45, h0_46, h0_47, h0_48, h0_49, h0_50, h0_51, h0_52, h0_53, h0_54, h0_55, h0_56, h0_57, h0_58, h0_59, h0_60, h0_61, h0_62, h0_63, h0_64, h0_65, h0_66, h0_67, h0_68, h0_69])), (h1, .inl (ch1, 120, .inl fh1))] sz) := by
  refine Met.ofW (cc := cX12_thick) (maxL := 4) (ret := (some .boolean)) (by decide) rfl ?_
  intro p e s m args below meth c s₁ B hml hv
  obtain ⟨rfl, hsz, hP, hK, hD0⟩ := hv
  have hx := B.exec
  have hb := B.bytes
  have hr := B.returns
  have hts := atoms_spec (ws := u_s_X12_thickA) B.pre
  have hown : s.vm.findClass RX12 = some m.cls := findClass_of_methodNamed B.named
  have hlocks := B.notSynchronized
  subst hsz
  have hD := hD0.self (sz := s.heap.size)
  generalize hAe : va_A [(h0, .inr (12, [h0_0, h0_1, .int mx, .int ml, h0_4, h0_5, h0_6, h0_7, h0_8, h0_9, h0_10, h0_11, h0_12, h0_13, h0_14, h0_15, h0_16, h0_17, h0_18, .int mc, h0_20, h0_21, .ref h1, h0_23, h0_24, h0_25, h0_26, h0_27, h0_28, h0_29, h0_30, h0_31, h0_32, h0_33, h0_34, h0_35, h0_36, h0_37, h0_38, h0_39, h0_40, h0_41, h0_42, h0_43, h0_44, h0_45, h0_46, h0_47, h0_48, h0_49, h0_50, h0_51, h0_52, h0_53, h0_54, h0_55, h0_56, h0_57, h0_58, h0_59, h0_60, h0_61, h0_62, h0_63, h0_64, h0_65, h0_66, h0_67, h0_68, h0_69])), (h1, .inl (ch1, 120, .inl fh1))] s.heap.size = A at hD ⊢
  have hA : ∀ q : Nat, s.heap.size ≤ q → A q := fun q h => by rw [← hAe]; exact Or.inr h
  have hS : va_S A s.heap s.heap [] := va_S.rf
  have hP : va_P (dC, dI) vwCl [(h0, .inr (12, [h0_0, h0_1, .int mx, .int ml, h0_4, h0_5, h0_6, h0_7, h0_8, h0_9, h0_10, h0_11, h0_12, h0_13, h0_14, h0_15, h0_16, h0_17, h0_18, .int mc, h0_20, h0_21, .ref h1, h0_23, h0_24, h0_25, h0_26, h0_27, h0_28, h0_29, h0_30, h0_31, h0_32, h0_33, h0_34, h0_35, h0_36, h0_37, h0_38, h0_39, h0_40, h0_41, h0_42, h0_43, h0_44, h0_45, h0_46, h0_47, h0_48, h0_49, h0_50, h0_51, h0_52, h0_53, h0_54, h0_55, h0_56, h0_57, h0_58, h0_59, h0_60, h0_61, h0_62, h0_63, h0_64, h0_65, h0_66, h0_67, h0_68, h0_69])), (h1, .inl (ch1, 120, .inl fh1))] s.heap := hP
  have w__fieldLink_RX12_145_ShellHeapModel_thrown_I_ := hts (.fieldLink RX12 145 "ShellHeapModel" "thrown" "I") (z_mc (z_ml z_m0))
  have hiX12 := show ∀ w ∈ u_ws RX12 TX12 70, w ∈ u_s_X12_thickA from fun w h => z_mc (z_mr (z_ml h))
  have w__fieldLink_RX12_181_ShellHeapModel_columns_I_ := hts (.fieldLink RX12 181 "ShellHeapModel" "columns" "I") (z_mc (z_ml z_m1))
  have w__fieldLink_RX12_60_ShellHeapModel_thickOf_I_ := hts (.fieldLink RX12 60 "ShellHeapModel" "thickOf" "[I") (z_mc (z_ml z_m6))
  have krr_p1 := z_rng p1
  have krr_p2 := z_rng p2
  have krr_p3 := z_rng p3
  have hl := lv_entry ([.ref h0, .int p1, .int p2, .int p3]) (n := 4) (Nat.le_of_ble_eq_true rfl)
  rw [lg_entry_eq]
  generalize (lg_sl ([.ref h0, .int p1, .int p2, .int p3]) ++ List.replicate (4 - (lg_sl ([.ref h0, .int p1, .int p2, .int p3])).length) Slot.unset).toArray = ls at hl ⊢
  have hl : lv_has ls 4 [(0, .ref h0), (1, .int p1), (2, .int p2), (3, .int p3)] := hl
  refine lv_aload_n hx hb dX12_thick_0 rfl (lv_at hl 0 rfl) ?_
  refine lv_iconst (v := 0) hx hb dX12_thick_1 (by decide) ?_
  refine va_put (D := (dC, dI)) (ci := 12) (v := .int 0) (ty := .int) (C := RX12) (T := TX12) (N := 70) hx hb hts hiX12 tyX12 tyX12_ok nmX12 hown hK hP hD hS 0 rfl rfl 2 (by decide) w__fieldLink_RX12_145_ShellHeapModel_thrown_I_ (fun _ h9 => h9) rfl (by decide +kernel) rfl rfl (Nat.le_of_ble_eq_true rfl) dX12_thick_2 (fun H_1 locs hP hD hS => ?_)
  obtain ⟨hP, hD⟩ := z_s_0_2 hP hD
  refine lv_iload_n hx hb dX12_thick_5 rfl (lv_at hl 1 rfl) ?_
  refine lv_if_lt (tgt := 36) hx hb dX12_thick_6 (by decide) (fun c_2 => ?_) (fun c_2 => ?_)
  · have k_3 : (p1).toInt < (0 : Int) := z_lt c_2
    refine lv_iconst (v := 0) hx hb dX12_thick_36 (by decide) ?_
    have hP9 := hP
    have hD9 := hD
    have hK9 := hK.sub (tys' := []) [] rfl
    refine W.widen (k := 0) (n := 0) (Nat.le_of_ble_eq_true rfl) (Nat.le_of_ble_eq_true rfl) ?_
    exact W.zret (v := 0) hx hb hr (by rfl) (fun t ht hW => ⟨⟨0, (), rfl, (show 0 = v_thA mc ml p1 p2 p3 by unfold v_thA; rw [if_neg (by omega)]), ⟨0, fh1, by rw [ht]; exact hP9, va_K.moved hW.alike hK9, hD9⟩⟩, hS.F ht⟩) hS.2.2 dX12_thick_37
  · have k_4 : (p1).toInt ≥ (0 : Int) := z_nlt c_2
    refine lv_iload_n hx hb dX12_thick_9 rfl (lv_at hl 1 rfl) ?_
    refine lv_aload_n hx hb dX12_thick_10 rfl (lv_at hl 0 rfl) ?_
    refine va_get (D := (dC, dI)) (ci := 12) (v := .int mc) (C := RX12) (T := TX12) (N := 70) hx hb hts hiX12 hown hK hP 0 rfl rfl 19 (by decide) w__fieldLink_RX12_181_ShellHeapModel_columns_I_ (fun _ h9 => h9) rfl dX12_thick_11 ?_
    refine lv_icmp_ge (tgt := 36) hx hb dX12_thick_14 (by decide) (fun c_5 => ?_) (fun c_5 => ?_)
    · have k_6 : (mc).toInt ≤ (p1).toInt := z_le c_5
      refine lv_iconst (v := 0) hx hb dX12_thick_36 (by decide) ?_
      have hP9 := hP
      have hD9 := hD
      have hK9 := hK.sub (tys' := []) [] rfl
      refine W.widen (k := 0) (n := 0) (Nat.le_of_ble_eq_true rfl) (Nat.le_of_ble_eq_true rfl) ?_
      exact W.zret (v := 0) hx hb hr (by rfl) (fun t ht hW => ⟨⟨0, (), rfl, (show 0 = v_thA mc ml p1 p2 p3 by unfold v_thA; rw [if_neg (by omega)]), ⟨0, fh1, by rw [ht]; exact hP9, va_K.moved hW.alike hK9, hD9⟩⟩, hS.F ht⟩) hS.2.2 dX12_thick_37
    · have k_7 : (mc).toInt > (p1).toInt := z_nle c_5
      refine lv_aload_n hx hb dX12_thick_17 rfl (lv_at hl 0 rfl) ?_
      refine lv_iload_n hx hb dX12_thick_18 rfl (lv_at hl 2 rfl) ?_
      obtain ⟨hPc, hDc⟩ := z_sub2 (ws' := [(h0, .inr (12, [h0_0, h0_1, .int 0, .int ml, h0_4, h0_5, h0_6, h0_7, h0_8, h0_9, h0_10, h0_11, h0_12, h0_13, h0_14, h0_15, h0_16, h0_17, h0_18, .int mc, h0_20, h0_21, .ref h1, h0_23, h0_24, h0_25, h0_26, h0_27, h0_28, h0_29, h0_30, h0_31, h0_32, h0_33, h0_34, h0_35, h0_36, h0_37, h0_38, h0_39, h0_40, h0_41, h0_42, h0_43, h0_44, h0_45, h0_46, h0_47, h0_48, h0_49, h0_50, h0_51, h0_52, h0_53, h0_54, h0_55, h0_56, h0_57, h0_58, h0_59, h0_60, h0_61, h0_62, h0_63, h0_64, h0_65, h0_66, h0_67, h0_68, h0_69]))]) hP hD [0] (by decide) rfl
      have hKc := hK.sub (tys' := []) [] rfl
      have hFc := va_free (ws := []) (wc := []) (z_D0 _) hS hA [] rfl
      refine va_calli (va_runV (As := [.int p2]) (rest := []) ⟨hx, hb, hml, hown, hts⟩ (s_X12_isLayerA l dC dI H_1.size h0 p2 h0_0 h0_1 (.int 0) ml h0_4 h0_5 h0_6 h0_7 h0_8 h0_9 h0_10 h0_11 h0_12 h0_13 h0_14 h0_15 h0_16 h0_17 h0_18 (.int mc) h0_20 h0_21 (.ref h1) h0_23 h0_24 h0_25 h0_26 h0_27 h0_28 h0_29 h0_30 h0_31 h0_32 h0_33 h0_34 h0_35 h0_36 h0_37 h0_38 h0_39 h0_40 h0_41 h0_42 h0_43 h0_44 h0_45 h0_46 h0_47 h0_48 h0_49 h0_50 h0_51 h0_52 h0_53 h0_54 h0_55 h0_56 h0_57 h0_58 h0_59 h0_60 h0_61 h0_62 h0_63 h0_64 h0_65 h0_66 h0_67 h0_68 h0_69 hB_ml) (cwV 1 hts gw_s_X12_thickA_s_X12_isLayerA_157 rfl rfl rfl (by decide +kernel) ⟨Nat.le_of_ble_eq_true rfl, Nat.le_of_ble_eq_true rfl⟩) ⟨z_blind, va_recv hKc hPc (ci := 12) (q0 := 0) rfl rfl, z_pre hPc hKc hDc⟩ rfl rfl hl.1 rfl (lv_room (Nat.le_of_ble_eq_true rfl)) dX12_thick_19 ⟨Nat.le_of_ble_eq_true rfl, Nat.le_of_ble_eq_true rfl⟩) hS (fun q _ h => hFc q h) hFc (fun r_9 u t H_8 locs ht hvm hw_10 hB hz1 hk1 hS => ?_)
      replace hP := z_pure hP hk1
      clear hPc hDc hKc
      rcases hw_10 with ⟨rfl, hw_10⟩ | ⟨rfl, hw_10⟩
      · have hw_10 : (0 ≤ p2.toInt ∧ p2.toInt < ml.toInt) := hw_10
        refine lv_if_eq (tgt := 36) hx hb dX12_thick_22 (by decide) (fun c_11 => absurd c_11 (by decide)) (fun _ => ?_)
        refine lv_iload_n hx hb dX12_thick_25 rfl (lv_at hl 3 rfl) ?_
        refine lv_if_lt (tgt := 36) hx hb dX12_thick_26 (by decide) (fun c_12 => ?_) (fun c_12 => ?_)
        · have k_13 : (p3).toInt < (0 : Int) := z_lt c_12
          refine lv_iconst (v := 0) hx hb dX12_thick_36 (by decide) ?_
          have hP9 := hP
          have hD9 := hD
          have hK9 := hK.sub (tys' := []) [] rfl
          refine W.widen (k := 0) (n := 0) (Nat.le_of_ble_eq_true rfl) (Nat.le_of_ble_eq_true rfl) ?_
          exact W.zret (v := 0) hx hb hr (by rfl) (fun t ht hW => ⟨⟨0, (), rfl, (show 0 = v_thA mc ml p1 p2 p3 by unfold v_thA; rw [if_neg (by omega)]), ⟨0, fh1, by rw [ht]; exact hP9, va_K.moved hW.alike hK9, hD9⟩⟩, hS.F ht⟩) hS.2.2 dX12_thick_37
        · have k_14 : (p3).toInt ≥ (0 : Int) := z_nlt c_12
          refine lv_iload_n hx hb dX12_thick_29 rfl (lv_at hl 3 rfl) ?_
          refine lv_sipush (v := 500) hx hb dX12_thick_30 (by decide) ?_
          refine lv_icmp_le (tgt := 38) hx hb dX12_thick_33 (by decide) (fun c_15 => ?_) (fun c_15 => ?_)
          · have k_16 : (p3).toInt ≤ (500 : Int) := z_le c_15
            refine lv_aload_n hx hb dX12_thick_38 rfl (lv_at hl 0 rfl) ?_
            refine va_get (D := (dC, dI)) (ci := 12) (v := .ref h1) (C := RX12) (T := TX12) (N := 70) hx hb hts hiX12 hown hK hP 0 rfl rfl 22 (by decide) w__fieldLink_RX12_60_ShellHeapModel_thickOf_I_ (fun _ h9 => h9) rfl dX12_thick_39 ?_
            refine lv_bipush (v := 12) hx hb dX12_thick_42 (by decide) ?_
            refine lv_iload_n hx hb dX12_thick_44 rfl (lv_at hl 1 rfl) ?_
            refine lv_imul hx hb dX12_thick_45 ?_
            refine lv_topi (fun z_17 ez_17 => ?_)
            have kz_17 : (z_17).toInt = (12 : Int) * (p1).toInt := by rw [ez_17]; exact z_mul (a := (12 : Int)) (b := (p1).toInt) rfl rfl (by omega) (by omega)
            refine lv_iload_n hx hb dX12_thick_46 rfl (lv_at hl 2 rfl) ?_
            refine lv_iadd hx hb dX12_thick_47 ?_
            refine lv_topi (fun z_18 ez_18 => ?_)
            have kz_18 : (z_18).toInt = (z_17).toInt + (p2).toInt := by rw [ez_18]; exact z_add (a := (z_17).toInt) (b := (p2).toInt) rfl rfl (by omega) (by omega)
            refine lv_iload_n hx hb dX12_thick_48 rfl (lv_at hl 3 rfl) ?_
            refine va_iast hx hb hK hP hD hS 1 0 rfl rfl (z_vpin (by omega) (by omega)) dX12_thick_49 (fun H_19 locs hP hD hS => ?_)
            obtain ⟨hP, hD⟩ := z_s_1 hP hD
            generalize (upd fh1 (z_18 : Int32).toNatClampNeg p3) = f_20 at hP hD
            refine lv_iconst (v := 1) hx hb dX12_thick_50 (by decide) ?_
            have hP9 := hP
            have hD9 := hD
            have hK9 := hK.sub (tys' := []) [] rfl
            refine W.widen (k := 0) (n := 0) (Nat.le_of_ble_eq_true rfl) (Nat.le_of_ble_eq_true rfl) ?_
            exact W.zret (v := 1) hx hb hr (by rfl) (fun t ht hW => ⟨⟨1, (), rfl, (show 1 = v_thA mc ml p1 p2 p3 by unfold v_thA; rw [if_pos (by omega)]), ⟨0, f_20, by rw [ht]; exact hP9, va_K.moved hW.alike hK9, hD9⟩⟩, hS.F ht⟩) hS.2.2 dX12_thick_51
          · have k_21 : (p3).toInt > (500 : Int) := z_nle c_15
            refine lv_iconst (v := 0) hx hb dX12_thick_36 (by decide) ?_
            have hP9 := hP
            have hD9 := hD
            have hK9 := hK.sub (tys' := []) [] rfl
            refine W.widen (k := 0) (n := 0) (Nat.le_of_ble_eq_true rfl) (Nat.le_of_ble_eq_true rfl) ?_
            exact W.zret (v := 0) hx hb hr (by rfl) (fun t ht hW => ⟨⟨0, (), rfl, (show 0 = v_thA mc ml p1 p2 p3 by unfold v_thA; rw [if_neg (by omega)]), ⟨0, fh1, by rw [ht]; exact hP9, va_K.moved hW.alike hK9, hD9⟩⟩, hS.F ht⟩) hS.2.2 dX12_thick_37
      · have hw_10 : ¬ (0 ≤ p2.toInt ∧ p2.toInt < ml.toInt) := hw_10
        refine lv_if_eq (tgt := 36) hx hb dX12_thick_22 (by decide) (fun _ => ?_) (fun c_22 => absurd (by decide) c_22)
        refine lv_iconst (v := 0) hx hb dX12_thick_36 (by decide) ?_
        have hP9 := hP
        have hD9 := hD
        have hK9 := hK.sub (tys' := []) [] rfl
        refine W.widen (k := 0) (n := 0) (Nat.le_of_ble_eq_true rfl) (Nat.le_of_ble_eq_true rfl) ?_
        exact W.zret (v := 0) hx hb hr (by rfl) (fun t ht hW => ⟨⟨0, (), rfl, (show 0 = v_thA mc ml p1 p2 p3 by unfold v_thA; rw [if_neg (by omega)]), ⟨0, fh1, by rw [ht]; exact hP9, va_K.moved hW.alike hK9, hD9⟩⟩, hS.F ht⟩) hS.2.2 dX12_thick_37
