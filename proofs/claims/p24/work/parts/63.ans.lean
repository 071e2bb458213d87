theorem z_ii {x y : Int32} (h : x.toInt = y.toInt) : x = y := Int32.toInt_inj.mp h
def v_layA (x : Int32) : Int32 := if x.toInt < 12 then x else (-1)
def v_layN (x : Int32) : Int32 := if x.toInt < 12 then x + 1 else x
def v_kiA (k m v : Int32) : Int32 := if (0 ≤ m.toInt ∧ m.toInt ≤ 999 ∧ 1 ≤ v.toInt ∧ v.toInt ≤ 2 ∧ k.toInt < 6) then k else (-1)
def v_kiN (k m v : Int32) : Int32 := if (0 ≤ m.toInt ∧ m.toInt ≤ 999 ∧ 1 ≤ v.toInt ∧ v.toInt ≤ 2 ∧ k.toInt < 6) then k + 1 else k
def v_keA (k a s o : Int32) : Int32 := if (0 ≤ a.toInt ∧ a.toInt < k.toInt ∧ 0 ≤ s.toInt ∧ s.toInt ≤ 3 ∧ 1 ≤ o.toInt ∧ o.toInt ≤ 16) then 1 else 0
def v_meA (l n a s r w : Int32) : Int32 := if (0 ≤ a.toInt ∧ a.toInt < l.toInt ∧ n.toInt < 200 ∧ 0 ≤ s.toInt ∧ s.toInt ≤ 99 ∧ 0 ≤ r.toInt ∧ r.toInt ≤ 30 ∧ 0 ≤ w.toInt ∧ w.toInt ≤ 99) then n + 1 else (-1)
def v_meN (l n a s r w : Int32) : Int32 := if (0 ≤ a.toInt ∧ a.toInt < l.toInt ∧ n.toInt < 200 ∧ 0 ≤ s.toInt ∧ s.toInt ≤ 99 ∧ 0 ≤ r.toInt ∧ r.toInt ≤ 30 ∧ 0 ≤ w.toInt ∧ w.toInt ≤ 99) then n + 1 else n
def v_hpW (w a b : Int32) : Int32 := if (2 ≤ a.toInt ∧ a.toInt ≤ 12 ∧ 2 ≤ b.toInt ∧ b.toInt ≤ 12) then a else w
def v_hpH (h a b : Int32) : Int32 := if (2 ≤ a.toInt ∧ a.toInt ≤ 12 ∧ 2 ≤ b.toInt ∧ b.toInt ≤ 12) then b else h
def v_hpC (c a b : Int32) : Int32 := if (2 ≤ a.toInt ∧ a.toInt ≤ 12 ∧ 2 ≤ b.toInt ∧ b.toInt ≤ 12) then 0 else c
def v_thA (c n k a m : Int32) : Int32 := if (0 ≤ k.toInt ∧ k.toInt < c.toInt ∧ 0 ≤ a.toInt ∧ a.toInt < n.toInt ∧ 0 ≤ m.toInt ∧ m.toInt ≤ 500) then 1 else 0
def v_no (xs ys : Nat → Int32) (n : Int) (x y : Int32) : Prop := ∀ j : Nat, (j : Int) < n → ¬ ((xs j).toInt = x.toInt ∧ (ys j).toInt = y.toInt)
theorem v_no_0 {xs ys : Nat → Int32} {n : Int} {x y : Int32} (h : n ≤ 0) : v_no xs ys n x y := fun j hj => absurd hj (by omega)
theorem v_no_s {xs ys : Nat → Int32} {i x y : Int32} {n : Int} (h : v_no xs ys i.toInt x y) (hi : (0 : Int) ≤ i.toInt) (hn : n = i.toInt + 1) (hne : ¬ ((xs i.toNatClampNeg).toInt = x.toInt ∧ (ys i.toNatClampNeg).toInt = y.toInt)) : v_no xs ys n x y := by
  intro j hj
  by_cases hji : (j : Int) < i.toInt
  · exact h j hji
  · have e : ((i.toNatClampNeg : Nat) : Int) = i.toInt := Int.toNat_of_nonneg hi
    have e2 : j = i.toNatClampNeg := by omega
    rw [e2]; exact hne
theorem v_no_end {xs ys : Nat → Int32} {n c : Int} {x y : Int32} (h : v_no xs ys n x y) (hc : c ≤ n) : v_no xs ys c x y := fun j hj => h j (by omega)
def v_cok (w h c : Int32) (xs ys : Nat → Int32) (x y : Int32) : Prop := ((0 : Int) ≤ x.toInt ∧ x.toInt < w.toInt ∧ (0 : Int) ≤ y.toInt ∧ y.toInt < h.toInt ∧ c.toInt < (10 : Int)) ∧ v_no xs ys c.toInt x y
theorem v_cok_mk {w h c x y : Int32} {xs ys : Nat → Int32} (h1 : (0 : Int) ≤ x.toInt ∧ x.toInt < w.toInt ∧ (0 : Int) ≤ y.toInt ∧ y.toInt < h.toInt ∧ c.toInt < (10 : Int)) (h2 : v_no xs ys c.toInt x y) : v_cok w h c xs ys x y := ⟨h1, h2⟩
theorem v_cok_out {w h c x y : Int32} {xs ys : Nat → Int32} (h1 : ¬ ((0 : Int) ≤ x.toInt ∧ x.toInt < w.toInt ∧ (0 : Int) ≤ y.toInt ∧ y.toInt < h.toInt ∧ c.toInt < (10 : Int))) : ¬ v_cok w h c xs ys x y := fun q => h1 q.1
theorem v_cok_hit {w h c x y : Int32} {xs ys : Nat → Int32} {i : Int32} (hi : (0 : Int) ≤ i.toInt) (hc : i.toInt < c.toInt) (he : (xs i.toNatClampNeg).toInt = x.toInt ∧ (ys i.toNatClampNeg).toInt = y.toInt) : ¬ v_cok w h c xs ys x y := fun q => by
  have e : ((i.toNatClampNeg : Nat) : Int) = i.toInt := Int.toNat_of_nonneg hi
  exact q.2 i.toNatClampNeg (by omega) he
noncomputable def v_coA (w h c : Int32) (xs ys : Nat → Int32) (x y : Int32) : Int32 := @ite _ (v_cok w h c xs ys x y) (Classical.propDecidable _) c (-1)
noncomputable def v_coN (w h c : Int32) (xs ys : Nat → Int32) (x y : Int32) : Int32 := @ite _ (v_cok w h c xs ys x y) (Classical.propDecidable _) (c + 1) c
noncomputable def v_coX (w h c : Int32) (xs ys : Nat → Int32) (x y : Int32) : Nat → Int32 := @ite _ (v_cok w h c xs ys x y) (Classical.propDecidable _) (upd xs c.toNatClampNeg x) xs
noncomputable def v_coY (w h c : Int32) (xs ys : Nat → Int32) (x y : Int32) : Nat → Int32 := @ite _ (v_cok w h c xs ys x y) (Classical.propDecidable _) (upd ys c.toNatClampNeg y) ys
theorem v_coA_pos {w h c x y : Int32} {xs ys : Nat → Int32} (q : v_cok w h c xs ys x y) : v_coA w h c xs ys x y = c := if_pos q
theorem v_coA_neg {w h c x y : Int32} {xs ys : Nat → Int32} (q : ¬ v_cok w h c xs ys x y) : v_coA w h c xs ys x y = (-1) := if_neg q
theorem v_coN_pos {w h c x y : Int32} {xs ys : Nat → Int32} (q : v_cok w h c xs ys x y) : v_coN w h c xs ys x y = c + 1 := if_pos q
theorem v_coN_neg {w h c x y : Int32} {xs ys : Nat → Int32} (q : ¬ v_cok w h c xs ys x y) : v_coN w h c xs ys x y = c := if_neg q
theorem v_coX_pos {w h c x y : Int32} {xs ys : Nat → Int32} (q : v_cok w h c xs ys x y) : v_coX w h c xs ys x y = upd xs c.toNatClampNeg x := if_pos q
theorem v_coX_neg {w h c x y : Int32} {xs ys : Nat → Int32} (q : ¬ v_cok w h c xs ys x y) : v_coX w h c xs ys x y = xs := if_neg q
theorem v_coY_pos {w h c x y : Int32} {xs ys : Nat → Int32} (q : v_cok w h c xs ys x y) : v_coY w h c xs ys x y = upd ys c.toNatClampNeg y := if_pos q
theorem v_coY_neg {w h c x y : Int32} {xs ys : Nat → Int32} (q : ¬ v_cok w h c xs ys x y) : v_coY w h c xs ys x y = ys := if_neg q
theorem z_add1 {c : Int32} (h : (0 : Int) ≤ c.toInt ∧ c.toInt ≤ (1000 : Int)) : (c + 1).toInt = c.toInt + 1 := z_add (a := c.toInt) (b := (1 : Int)) rfl rfl (by omega) (by omega)
def u_s_X11_layerA : List Cond := .code yX11_layer cX11_layer 1 (some .int) :: ([.fieldLink RX11 19 "ShellHeap" "book" "LShellHeap$Book;", .fieldLink RX11 137 "ShellHeap$Book" "layers" "I"] ++ (wsX110 ++ (wsX00 ++ [])))
theorem gd_s_X11_layerA : z_gd u_s_X11_layerA := z_gdc (by decide +kernel) (z_gda gdX11 (z_gda gdX0 (z_gd0)))
set_option maxHeartbeats 4000000 in
set_option maxRecDepth 100000 in
theorem s_X11_layerA (l : Launch) (dC : Nat → ClassId) (dI : Nat → Nat → Nat) (sz : Nat) (h0 : Nat) (h0_0 : Value) (h1 : Nat) (h0_2 : Value) (h0_3 : Value) (h0_4 : Value) (h0_5 : Value) (h0_6 : Value) (h0_7 : Value) (h0_8 : Value) (h0_9 : Value) (h1_0 : Value) (h1_1 : Value) (h1_2 : Value) (h1_3 : Value) (h1_4 : Value) (bl : Int32) (hB_bl : ((0 : Int) ≤ (bl).toInt ∧ (bl).toInt ≤ (12 : Int))) : Met l yX11_layer u_s_X11_layerA ({ frames := 0, cells := 0, slots := 0, locals := 0 }) (va_Pc [.ref h0] (z_C (dC, dI) vwCl [(h0, .inr (11, [h0_0, .ref h1, h0_2, h0_3, h0_4, h0_5, h0_6, h0_7, h0_8, h0_9])), (h1, .inr (0, [h1_0, h1_1, h1_2, h1_3, h1_4, .int bl]))] [] sz)) (va_Qi (fun (r : Int32) (_ : Unit) => r = v_layA bl) (fun (_ : Unit) (t : State) => ∃ (n_h1_layers : Int32), ((0 : Int) ≤ (n_h1_layers).toInt ∧ (n_h1_layers).toInt ≤ (12 : Int)) ∧ (n_h1_layers = v_layN bl) ∧ va_P (dC, dI) vwCl [(h0, .inr (11, [h0_0, .ref h1, h0_2, h0_3, h0_4, h0_5, h0_6, h0_7, h0_8, h0_9])), (h1, .inr (0, [h1_0, h1_1, h1_2, h1_3, h1_4, .int n_h1_layers]))] t.heap ∧ va_K (dC, dI) vwCl [] t ∧ va_D (va_A [(h0, .inr (11, [h0_0, .ref h1, h0_2, h0_3, h0_4, h0_5, h0_6, h0_7, h0_8, h0_9])), (h1, .inr (0, [h1_0, h1_1, h1_2, h1_3, h1_4, .int bl]))] sz) [(h0, .inr (11, [h0_0, .ref h1, h0_2, h0_3, h0_4, h0_5, h0_6, h0_7, h0_8, h0_9])), (h1, .inr (0, [h1_0, h1_1, h1_2, h1_3, h1_4, .int n_h1_layers]))]) (va_A [(h0, .inr (11, [h0_0, .ref h1, h0_2, h0_3, h0_4, h0_5, h0_6, h0_7, h0_8, h0_9])), (h1, .inr (0, [h1_0, h1_1, h1_2, h1_3, h1_4, .int bl]))] sz)) 0 0 (va_A [(h0, .inr (11, [h0_0, .ref h1, h0_2, h0_3, h0_4, h0_5, h0_6, h0_7, h0_8, h0_9])), (h1, .inr (0, [h1_0, h1_1, h1_2, h1_3, h1_4, .int bl]))] sz) := by
  refine Met.ofW (cc := cX11_layer) (maxL := 1) (ret := (some .int)) (by decide) rfl ?_
  intro p e s m args below meth c s₁ B hml hv
  obtain ⟨rfl, hsz, hP, hK, hD0⟩ := hv
  have hx := B.exec
  have hb := B.bytes
  have hr := B.returns
  have hts := atoms_spec (ws := u_s_X11_layerA) B.pre
  have hown : s.vm.findClass RX11 = some m.cls := findClass_of_methodNamed B.named
  have hlocks := B.notSynchronized
  subst hsz
  have hD := hD0.self (sz := s.heap.size)
  generalize hAe : va_A [(h0, .inr (11, [h0_0, .ref h1, h0_2, h0_3, h0_4, h0_5, h0_6, h0_7, h0_8, h0_9])), (h1, .inr (0, [h1_0, h1_1, h1_2, h1_3, h1_4, .int bl]))] s.heap.size = A at hD ⊢
  have hA : ∀ q : Nat, s.heap.size ≤ q → A q := fun q h => by rw [← hAe]; exact Or.inr h
  have hS : va_S A s.heap s.heap [] := va_S.rf
  have hP : va_P (dC, dI) vwCl [(h0, .inr (11, [h0_0, .ref h1, h0_2, h0_3, h0_4, h0_5, h0_6, h0_7, h0_8, h0_9])), (h1, .inr (0, [h1_0, h1_1, h1_2, h1_3, h1_4, .int bl]))] s.heap := hP
  have w__fieldLink_RX11_19_ShellHeap_book_LShellHeap_Book_ := hts (.fieldLink RX11 19 "ShellHeap" "book" "LShellHeap$Book;") (by decide +kernel)
  have hiX11 := show ∀ w ∈ u_ws RX11 TX11 10, w ∈ u_s_X11_layerA from fun w h => z_mc (z_mr (z_ml h))
  have w__fieldLink_RX11_137_ShellHeap_Book_layers_I_ := hts (.fieldLink RX11 137 "ShellHeap$Book" "layers" "I") (by decide +kernel)
  have hiX0 := show ∀ w ∈ u_ws RX0 TX0 6, w ∈ u_s_X11_layerA from fun w h => z_mc (z_mr (z_mr (z_ml h)))
  have hl := lv_entry ([.ref h0]) (n := 1) (Nat.le_of_ble_eq_true rfl)
  rw [lg_entry_eq]
  generalize (lg_sl ([.ref h0]) ++ List.replicate (1 - (lg_sl ([.ref h0])).length) Slot.unset).toArray = ls at hl ⊢
  have hl : lv_has ls 1 [(0, .ref h0)] := hl
  refine lv_aload_n hx hb dX11_layer_0 rfl (lv_at hl 0 rfl) ?_
  refine va_get (D := (dC, dI)) (ci := 11) (v := .ref h1) (C := RX11) (T := TX11) (N := 10) hx hb hts hiX11 hown hK hP 0 rfl rfl 1 (by decide) w__fieldLink_RX11_19_ShellHeap_book_LShellHeap_Book_ (fun _ h9 => h9) rfl dX11_layer_1 ?_
  refine va_get (D := (dC, dI)) (ci := 0) (v := .int bl) (C := RX0) (T := TX0) (N := 6) hx hb hts hiX0 hown hK hP 1 rfl rfl 5 (by decide) w__fieldLink_RX11_137_ShellHeap_Book_layers_I_ (fun _ h9 => h9) rfl dX11_layer_4 ?_
  refine lv_bipush (v := 12) hx hb dX11_layer_7 (by decide) ?_
  refine lv_icmp_lt (tgt := 14) hx hb dX11_layer_9 (by decide) (fun c_1 => ?_) (fun c_1 => ?_)
  · have k_2 : (bl).toInt < (12 : Int) := z_lt c_1
    refine lv_aload_n hx hb dX11_layer_14 rfl (lv_at hl 0 rfl) ?_
    refine va_get (D := (dC, dI)) (ci := 11) (v := .ref h1) (C := RX11) (T := TX11) (N := 10) hx hb hts hiX11 hown hK hP 0 rfl rfl 1 (by decide) w__fieldLink_RX11_19_ShellHeap_book_LShellHeap_Book_ (fun _ h9 => h9) rfl dX11_layer_15 ?_
    refine lv_dup hx hb dX11_layer_18 rfl ?_
    refine va_get (D := (dC, dI)) (ci := 0) (v := .int bl) (C := RX0) (T := TX0) (N := 6) hx hb hts hiX0 hown hK hP 1 rfl rfl 5 (by decide) w__fieldLink_RX11_137_ShellHeap_Book_layers_I_ (fun _ h9 => h9) rfl dX11_layer_19 ?_
    refine lv_iconst (v := 1) hx hb dX11_layer_22 (by decide) ?_
    refine lv_iadd hx hb dX11_layer_23 ?_
    refine lv_topi (fun z_3 ez_3 => ?_)
    have kz_3 : (z_3).toInt = (bl).toInt + (1 : Int) := by rw [ez_3]; exact z_add (a := (bl).toInt) (b := (1 : Int)) rfl rfl (by omega) (by omega)
    refine va_put (D := (dC, dI)) (ci := 0) (v := .int z_3) (ty := .int) (C := RX0) (T := TX0) (N := 6) hx hb hts hiX0 tyX0 tyX0_ok nmX0 hown hK hP hD hS 1 rfl rfl 5 (by decide) w__fieldLink_RX11_137_ShellHeap_Book_layers_I_ (fun _ h9 => h9) rfl (by decide +kernel) rfl rfl (Nat.le_of_ble_eq_true rfl) dX11_layer_24 (fun H_4 locs hP hD hS => ?_)
    have hP : va_P (dC, dI) vwCl [(h0, .inr (11, [h0_0, .ref h1, h0_2, h0_3, h0_4, h0_5, h0_6, h0_7, h0_8, h0_9])), (h1, .inr (0, [h1_0, h1_1, h1_2, h1_3, h1_4, .int z_3]))] H_4 := hP
    have hD : va_D A [(h0, .inr (11, [h0_0, .ref h1, h0_2, h0_3, h0_4, h0_5, h0_6, h0_7, h0_8, h0_9])), (h1, .inr (0, [h1_0, h1_1, h1_2, h1_3, h1_4, .int z_3]))] := hD
    refine lv_aload_n hx hb dX11_layer_27 rfl (lv_at hl 0 rfl) ?_
    refine va_get (D := (dC, dI)) (ci := 11) (v := .ref h1) (C := RX11) (T := TX11) (N := 10) hx hb hts hiX11 hown hK hP 0 rfl rfl 1 (by decide) w__fieldLink_RX11_19_ShellHeap_book_LShellHeap_Book_ (fun _ h9 => h9) rfl dX11_layer_28 ?_
    refine va_get (D := (dC, dI)) (ci := 0) (v := .int z_3) (C := RX0) (T := TX0) (N := 6) hx hb hts hiX0 hown hK hP 1 rfl rfl 5 (by decide) w__fieldLink_RX11_137_ShellHeap_Book_layers_I_ (fun _ h9 => h9) rfl dX11_layer_31 ?_
    refine lv_iconst (v := 1) hx hb dX11_layer_34 (by decide) ?_
    refine lv_isub hx hb dX11_layer_35 ?_
    refine lv_topi (fun z_5 ez_5 => ?_)
    have kz_5 : (z_5).toInt = (z_3).toInt - (1 : Int) := by rw [ez_5]; exact z_sub (a := (z_3).toInt) (b := (1 : Int)) rfl rfl (by omega) (by omega)
    have hP9 := hP.sub (ws' := [(h0, .inr (11, [h0_0, .ref h1, h0_2, h0_3, h0_4, h0_5, h0_6, h0_7, h0_8, h0_9])), (h1, .inr (0, [h1_0, h1_1, h1_2, h1_3, h1_4, .int z_3]))]) [0, 1] rfl
    have hD9 := hD.sub (ws' := [(h0, .inr (11, [h0_0, .ref h1, h0_2, h0_3, h0_4, h0_5, h0_6, h0_7, h0_8, h0_9])), (h1, .inr (0, [h1_0, h1_1, h1_2, h1_3, h1_4, .int z_3]))]) [0, 1] (by decide) rfl
    have hK9 := hK.sub (tys' := []) [] rfl
    refine W.widen (k := 0) (n := 0) (Nat.le_of_ble_eq_true rfl) (Nat.le_of_ble_eq_true rfl) ?_
    exact W.iret (v := z_5) hx hb hr (fun t ht hW => ⟨⟨z_5, (), rfl, (show z_5 = v_layA bl by unfold v_layA; rw [if_pos (by omega)]; first | exact ez_5 | exact z_ii (by omega)), ⟨z_3, (by first | omega | decide), (show z_3 = v_layN bl by unfold v_layN; rw [if_pos (by omega)]; exact ez_3), by rw [ht]; exact hP9, va_K.moved hW.alike hK9, hD9⟩⟩, hS.F ht⟩) hS.2.2 dX11_layer_36
  · have k_6 : (bl).toInt ≥ (12 : Int) := z_nlt c_1
    refine lv_iconst (v := (-1)) hx hb dX11_layer_12 (by decide) ?_
    have hP9 := hP.sub (ws' := [(h0, .inr (11, [h0_0, .ref h1, h0_2, h0_3, h0_4, h0_5, h0_6, h0_7, h0_8, h0_9])), (h1, .inr (0, [h1_0, h1_1, h1_2, h1_3, h1_4, .int bl]))]) [0, 1] rfl
    have hD9 := hD.sub (ws' := [(h0, .inr (11, [h0_0, .ref h1, h0_2, h0_3, h0_4, h0_5, h0_6, h0_7, h0_8, h0_9])), (h1, .inr (0, [h1_0, h1_1, h1_2, h1_3, h1_4, .int bl]))]) [0, 1] (by decide) rfl
    have hK9 := hK.sub (tys' := []) [] rfl
    refine W.widen (k := 0) (n := 0) (Nat.le_of_ble_eq_true rfl) (Nat.le_of_ble_eq_true rfl) ?_
    exact W.iret (v := (-1)) hx hb hr (fun t ht hW => ⟨⟨(-1), (), rfl, (show (-1) = v_layA bl by unfold v_layA; rw [if_neg (by omega)]), ⟨bl, (by first | omega | decide), (show bl = v_layN bl by unfold v_layN; rw [if_neg (by omega)]), by rw [ht]; exact hP9, va_K.moved hW.alike hK9, hD9⟩⟩, hS.F ht⟩) hS.2.2 dX11_layer_13
def u_s_X12_layerA : List Cond := .code yX12_layer cX12_layer 1 (some .int) :: ([.fieldLink RX12 145 "ShellHeapModel" "thrown" "I", .fieldLink RX12 151 "ShellHeapModel" "layers" "I"] ++ (wsX120 ++ []))
theorem gd_s_X12_layerA : z_gd u_s_X12_layerA := z_gdc (by decide +kernel) (z_gda gdX12 (z_gd0))
set_option maxHeartbeats 4000000 in
set_option maxRecDepth 100000 in
theorem s_X12_layerA (l : Launch) (dC : Nat → ClassId) (dI : Nat → Nat → Nat) (sz : Nat) (h0 : Nat) (h0_0 : Value) (h0_1 : Value) (mx : Int32) (ml : Int32) (h0_4 : Value) (h0_5 : Value) (h0_6 : Value) (h0_7 : Value) (h0_8 : Value) (h0_9 : Value) (h0_10 : Value) (h0_11 : Value) (h0_12 : Value) (h0_13 : Value) (h0_14 : Value) (h0_15 : Value) (h0_16 : Value) (h0_17 : Value) (h0_18 : Value) (h0_19 : Value) (h0_20 : Value) (h0_21 : Value) (h0_22 : Value) (h0_23 : Value) (h0_24 : Value) (h0_25 : Value) (h0_26 : Value) (h0_27 : Value) (h0_28 : Value) (h0_29 : Value) (h0_30 : Value) (h0_31 : Value) (h0_32 : Value) (h0_33 : Value) (h0_34 : Value) (h0_35 : Value) (h0_36 : Value) (h0_37 : Value) (h0_38 : Value) (h0_39 : Value) (h0_40 : Value) (h0_41 : Value) (h0_42 : Value) (h0_43 : Value) (h0_44 : Value) (h0_45 : Value) (h0_46 : Value) (h0_47 : Value) (h0_48 : Value) (h0_49 : Value) (h0_50 : Value) (h0_51 : Value) (h0_52 : Value) (h0_53 : Value) (h0_54 : Value) (h0_55 : Value) (h0_56 : Value) (h0_57 : Value) (h0_58 : Value) (h0_59 : Value) (h0_60 : Value) (h0_61 : Value) (h0_62 : Value) (h0_63 : Value) (h0_64 : Value) (h0_65 : Value) (h0_66 : Value) (h0_67 : Value) (h0_68 : Value) (h0_69 : Value) (hB_ml : ((0 : Int) ≤ (ml).toInt ∧ (ml).toInt ≤ (12 : Int))) : Met l yX12_layer u_s_X12_layerA ({ frames := 0, cells := 0, slots := 0, locals := 0 }) (va_Pc [.ref h0] (z_C (dC, dI) vwCl [(h0, .inr (12, [h0_0, h0_1, .int mx, .int ml, h0_4, h0_5, h0_6, h0_7, h0_8, h0_9, h0_10, h0_11, h0_12, h0_13, h0_14, h0_15, h0_16, h0_17, h0_18, h0_19, h0_20, h0_21, h0_22, h0_23, h0_24, h0_25, h0_26, h0_27, h0_28, h0_29, h0_30, h0_31, h0_32, h0_33, h0_34, h0_35, h0_36, h0_37, h0_38, h0_39, h0_40, h0_41, h0_42, h0_43, h0_44, h0_45, h0_46, h0_47, h0_48, h0_49, h0_50, h0_51, h0_52, h0_53, h0_54, h0_55, h0_56, h0_57, h0_58, h0_59, h0_60, h0_61, h0_62, h0_63, h0_64, h0_65, h0_66, h0_67, h0_68, h0_69]))] [] sz)) (va_Qi (fun (r : Int32) (_ : Unit) => r = v_layA ml) (fun (_ : Unit) (t : State) => ∃ (n_h0_thrown : Int32), ∃ (n_h0_layers : Int32), ((0 : Int) ≤ (n_h0_layers).toInt ∧ (n_h0_layers).toInt ≤ (12 : Int)) ∧ (n_h0_layers = v_layN ml) ∧ va_P (dC, dI) vwCl [(h0, .inr (12, [h0_0, h0_1, .int n_h0_thrown, .int n_h0_layers, h0_4, h0_5, h0_6, h0_7, h0_8, h0_9, h0_10, h0_11, h0_12, h0_13, h0_14, h0_15, h0_16, h0_17, h0_18, h0_19, h0_20, h0_21, h0_22, h0_23, h0_24, h0_25, h0_26, h0_27, h0_28, h0_29, h0_30, h0_31, h0_32, h0_33, h0_34, h0_35, h0_36, h0_37, h0_38, h0_39, h0_40, h0_41, h0_42, h0_43, h0_44, h0_45, h0_46, h0_47, h0_48, h0_49, h0_50, h0_51, h0_52, h0_53, h0_54, h0_55, h0_56, h0_57, h0_58, h0_59, h0_60, h0_61, h0_62, h0_63, h0_64, h0_65, h0_66, h0_67, h0_68, h0_69]))] t.heap ∧ va_K (dC, dI) vwCl [] t ∧ va_D (va_A [(h0, .inr (12, [h0_0, h0_1, .int mx, .int ml, h0_4, h0_5, h0_6, h0_7, h0_8, h0_9, h0_10, h0_11, h0_12, h0_13, h0_14, h0_15, h0_16, h0_17, h0_18, h0_19, h0_20, h0_21, h0_22, h0_23, h0_24, h0_25, h0_26, h0_27, h0_28, h0_29, h0_30, h0_31, h0_32, h0_33, h0_34, h0_35, h0_36, h0_37, h0_38, h0_39, h0_40, h0_41, h0_42, h0_43, h0_44, h0_45, h0_46, h0_47, h0_48, h0_49, h0_50, h0_51, h0_52, h0_53, h0_54, h0_55, h0_56, h0_57, h0_58, h0_59, h0_60, h0_61, h0_62, h0_63, h0_64, h0_65, h0_66, h0_67, h0_68, h0_69]))] sz) [(h0, .inr (12, [h0_0, h0_1, .int n_h0_thrown, .int n_h0_layers, h0_4, h0_5, h0_6, h0_7, h0_8, h0_9, h0_10, h0_11, h0_12, h0_13, h0_14, h0_15, h0_16, h0_17, h0_18, h0_19, h0_20, h0_21, h0_22, h0_23, h0_24, h0_25, h0_26, h0_27, h0_28, h0_29, h0_30, h0_31, h0_32, h0_33, h0_34, h0_35, h0_36, h0_37, h0_38, h0_39, h0_40, h0_41, h0_42, h0_43, h0_44, h0_45, h0_46, h0_47, h0_48, h0_49, h0_50, h0_51, h0_52, h0_53, h0_54, h0_55, h0_56, h0_57, h0_58, h0_59, h0_60, h0_61, h0_62, h0_63, h0_64, h0_65, h0_66, h0_67, h0_68, h0_69]))]) (va_A [(h0, .inr (12, [h0_0, h0_1, .int mx, .int ml, h0_4, h0_5, h0_6, h0_7, h0_8, h0_9, h0_10, h0_11, h0_12, h0_13, h0_14, h0_15, h0_16, h0_17, h0_18, h0_19, h0_20, h0_21, h0_22, h0_23, h0_24, h0_25, h0_26, h0_27, h0_28, h0_29, h0_30, h0_31, h0_32, h0_33, h0_34, h0_35, h0_36, h0_37, h0_38, h0_39, h0_40, h0_41, h0_42, h0_43, h0_44, h0_45, h0_46, h0_47, h0_48, h0_49, h0_50, h0_51, h0_52, h0_53, h0_54, h0_55, h0_56, h0_57, h0_58, h0_59, h0_60, h0_61, h0_62, h0_63, h0_64, h0_65, h0_66, h0_67, h0_68, h0_69]))] sz)) 0 0 (va_A [(h0, .inr (12, [h0_0, h0_1, .int mx, .int ml, h0_4, h0_5, h0_6, h0_7, h0_8, h0_9, h0_10, h0_11, h0_12, h0_13, h0_14, h0_15, h0_16, h0_17, h0_18, h0_19, h0_20, h0_21, h0_22, h0_23, h0_24, h0_25, h0_26, h0_27, h0_28, h0_29, h0_30, h0_31, h0_32, h0_33, h0_34, h0_35, h0_36, h0_37, h0_38, h0_39, h0_40, h0_41, h0_42, h0_43, h0_44, h0_45, h0_46, h0_47, h0_48, h0_49, h0_50, h0_51, h0_52, h0_53, h0_54, h0_55, h0_56, h0_57, h0_58, h0_59, h0_60, h0_61, h0_62, h0_63, h0_64, h0_65, h0_66, h0_67, h0_68, h0_69]))] sz) := by
  refine Met.ofW (cc := cX12_layer) (maxL := 1) (ret := (some .int)) (by decide) rfl ?_
  intro p e s m args below meth c s₁ B hml hv
  obtain ⟨rfl, hsz, hP, hK, hD0⟩ := hv
  have hx := B.exec
  have hb := B.bytes
  have hr := B.returns
  have hts := atoms_spec (ws := u_s_X12_layerA) B.pre
  have hown : s.vm.findClass RX12 = some m.cls := findClass_of_methodNamed B.named
  have hlocks := B.notSynchronized
  subst hsz
  have hD := hD0.self (sz := s.heap.size)
  generalize hAe : va_A [(h0, .inr (12, [h0_0, h0_1, .int mx, .int ml, h0_4, h0_5, h0_6, h0_7, h0_8, h0_9, h0_10, h0_11, h0_12, h0_13, h0_14, h0_15, h0_16, h0_17, h0_18, h0_19, h0_20, h0_21, h0_22, h0_23, h0_24, h0_25, h0_26, h0_27, h0_28, h0_29, h0_30, h0_31, h0_32, h0_33, h0_34, h0_35, h0_36, h0_37, h0_38, h0_39, h0_40, h0_41, h0_42, h0_43, h0_44, h0_45, h0_46, h0_47, h0_48, h0_49, h0_50, h0_51, h0_52, h0_53, h0_54, h0_55, h0_56, h0_57, h0_58, h0_59, h0_60, h0_61, h0_62, h0_63, h0_64, h0_65, h0_66, h0_67, h0_68, h0_69]))] s.heap.size = A at hD ⊢
  have hA : ∀ q : Nat, s.heap.size ≤ q → A q := fun q h => by rw [← hAe]; exact Or.inr h
  have hS : va_S A s.heap s.heap [] := va_S.rf
  have hP : va_P (dC, dI) vwCl [(h0, .inr (12, [h0_0, h0_1, .int mx, .int ml, h0_4, h0_5, h0_6, h0_7, h0_8, h0_9, h0_10, h0_11, h0_12, h0_13, h0_14, h0_15, h0_16, h0_17, h0_18, h0_19, h0_20, h0_21, h0_22, h0_23, h0_24, h0_25, h0_26, h0_27, h0_28, h0_29, h0_30, h0_31, h0_32, h0_33, h0_34, h0_35, h0_36, h0_37, h0_38, h0_39, h0_40, h0_41, h0_42, h0_43, h0_44, h0_45, h0_46, h0_47, h0_48, h0_49, h0_50, h0_51, h0_52, h0_53, h0_54, h0_55, h0_56, h0_57, h0_58, h0_59, h0_60, h0_61, h0_62, h0_63, h0_64, h0_65, h0_66, h0_67, h0_68, h0_69]))] s.heap := hP
  have w__fieldLink_RX12_145_ShellHeapModel_thrown_I_ := hts (.fieldLink RX12 145 "ShellHeapModel" "thrown" "I") (by decide +kernel)
  have hiX12 := show ∀ w ∈ u_ws RX12 TX12 70, w ∈ u_s_X12_layerA from fun w h => z_mc (z_mr (z_ml h))
  have w__fieldLink_RX12_151_ShellHeapModel_layers_I_ := hts (.fieldLink RX12 151 "ShellHeapModel" "layers" "I") (by decide +kernel)
  have hl := lv_entry ([.ref h0]) (n := 1) (Nat.le_of_ble_eq_true rfl)
  rw [lg_entry_eq]
  generalize (lg_sl ([.ref h0]) ++ List.replicate (1 - (lg_sl ([.ref h0])).length) Slot.unset).toArray = ls at hl ⊢
  have hl : lv_has ls 1 [(0, .ref h0)] := hl
  refine lv_aload_n hx hb dX12_layer_0 rfl (lv_at hl 0 rfl) ?_
  refine lv_iconst (v := 0) hx hb dX12_layer_1 (by decide) ?_
  refine va_put (D := (dC, dI)) (ci := 12) (v := .int 0) (ty := .int) (C := RX12) (T := TX12) (N := 70) hx hb hts hiX12 tyX12 tyX12_ok nmX12 hown hK hP hD hS 0 rfl rfl 2 (by decide) w__fieldLink_RX12_145_ShellHeapModel_thrown_I_ (fun _ h9 => h9) rfl (by decide +kernel) rfl rfl (Nat.le_of_ble_eq_true rfl) dX12_layer_2 (fun H_1 locs hP hD hS => ?_)
  have hP : va_P (dC, dI) vwCl [(h0, .inr (12, [h0_0, h0_1, .int 0, .int ml, h0_4, h0_5, h0_6, h0_7, h0_8, h0_9, h0_10, h0_11, h0_12, h0_13, h0_14, h0_15, h0_16, h0_17, h0_18, h0_19, h0_20, h0_21, h0_22, h0_23, h0_24, h0_25, h0_26, h0_27, h0_28, h0_29, h0_30, h0_31, h0_32, h0_33, h0_34, h0_35, h0_36, h0_37, h0_38, h0_39, h0_40, h0_41, h0_42, h0_43, h0_44, h0_45, h0_46, h0_47, h0_48, h0_49, h0_50, h0_51, h0_52, h0_53, h0_54, h0_55, h0_56, h0_57, h0_58, h0_59, h0_60, h0_61, h0_62, h0_63, h0_64, h0_65, h0_66, h0_67, h0_68, h0_69]))] H_1 := hP
  have hD : va_D A [(h0, .inr (12, [h0_0, h0_1, .int 0, .int ml, h0_4, h0_5, h0_6, h0_7, h0_8, h0_9, h0_10, h0_11, h0_12, h0_13, h0_14, h0_15, h0_16, h0_17, h0_18, h0_19, h0_20, h0_21, h0_22, h0_23, h0_24, h0_25, h0_26, h0_27, h0_28, h0_29, h0_30, h0_31, h0_32, h0_33, h0_34, h0_35, h0_36, h0_37, h0_38, h0_39, h0_40, h0_41, h0_42, h0_43, h0_44, h0_45, h0_46, h0_47, h0_48, h0_49, h0_50, h0_51, h0_52, h0_53, h0_54, h0_55, h0_56, h0_57, h0_58, h0_59, h0_60, h0_61, h0_62, h0_63, h0_64, h0_65, h0_66, h0_67, h0_68, h0_69]))] := hD
  refine lv_aload_n hx hb dX12_layer_5 rfl (lv_at hl 0 rfl) ?_
  refine va_get (D := (dC, dI)) (ci := 12) (v := .int ml) (C := RX12) (T := TX12) (N := 70) hx hb hts hiX12 hown hK hP 0 rfl rfl 3 (by decide) w__fieldLink_RX12_151_ShellHeapModel_layers_I_ (fun _ h9 => h9) rfl dX12_layer_6 ?_
  refine lv_bipush (v := 12) hx hb dX12_layer_9 (by decide) ?_
  refine lv_icmp_ne (tgt := 16) hx hb dX12_layer_11 (by decide) (fun c_2 => ?_) (fun c_2 => ?_)
  · have k_3 : (ml).toInt ≠ (12 : Int) := z_ne c_2
    refine lv_aload_n hx hb dX12_layer_16 rfl (lv_at hl 0 rfl) ?_
    refine lv_dup hx hb dX12_layer_17 rfl ?_
    refine va_get (D := (dC, dI)) (ci := 12) (v := .int ml) (C := RX12) (T := TX12) (N := 70) hx hb hts hiX12 hown hK hP 0 rfl rfl 3 (by decide) w__fieldLink_RX12_151_ShellHeapModel_layers_I_ (fun _ h9 => h9) rfl dX12_layer_18 ?_
    refine lv_iconst (v := 1) hx hb dX12_layer_21 (by decide) ?_
    refine lv_iadd hx hb dX12_layer_22 ?_
    refine lv_topi (fun z_4 ez_4 => ?_)
    have kz_4 : (z_4).toInt = (ml).toInt + (1 : Int) := by rw [ez_4]; exact z_add (a := (ml).toInt) (b := (1 : Int)) rfl rfl (by omega) (by omega)
    refine va_put (D := (dC, dI)) (ci := 12) (v := .int z_4) (ty := .int) (C := RX12) (T := TX12) (N := 70) hx hb hts hiX12 tyX12 tyX12_ok nmX12 hown hK hP hD hS 0 rfl rfl 3 (by decide) w__fieldLink_RX12_151_ShellHeapModel_layers_I_ (fun _ h9 => h9) rfl (by decide +kernel) rfl rfl (Nat.le_of_ble_eq_true rfl) dX12_layer_23 (fun H_5 locs hP hD hS => ?_)
    have hP : va_P (dC, dI) vwCl [(h0, .inr (12, [h0_0, h0_1, .int 0, .int z_4, h0_4, h0_5, h0_6, h0_7, h0_8, h0_9, h0_10, h0_11, h0_12, h0_13, h0_14, h0_15, h0_16, h0_17, h0_18, h0_19, h0_20, h0_21, h0_22, h0_23, h0_24, h0_25, h0_26, h0_27, h0_28, h0_29, h0_30, h0_31, h0_32, h0_33, h0_34, h0_35, h0_36, h0_37, h0_38, h0_39, h0_40, h0_41, h0_42, h0_43, h0_44, h0_45, h0_46, h0_47, h0_48, h0_49, h0_50, h0_51, h0_52, h0_53, h0_54, h0_55, h0_56, h0_57, h0_58, h0_59, h0_60, h0_61, h0_62, h0_63, h0_64, h0_65, h0_66, h0_67, h0_68, h0_69]))] H_5 := hP
    have hD : va_D A [(h0, .inr (12, [h0_0, h0_1, .int 0, .int z_4, h0_4, h0_5, h0_6, h0_7, h0_8, h0_9, h0_10, h0_11, h0_12, h0_13, h0_14, h0_15, h0_16, h0_17, h0_18, h0_19, h0_20, h0_21, h0_22, h0_23, h0_24, h0_25, h0_26, h0_27, h0_28, h0_29, h0_30, h0_31, h0_32, h0_33, h0_34, h0_35, h0_36, h0_37, h0_38, h0_39, h0_40, h0_41, h0_42, h0_43, h0_44, h0_45, h0_46, h0_47, h0_48, h0_49, h0_50, h0_51, h0_52, h0_53, h0_54, h0_55, h0_56, h0_57, h0_58, h0_59, h0_60, h0_61, h0_62, h0_63, h0_64, h0_65, h0_66, h0_67, h0_68, h0_69]))] := hD
    refine lv_aload_n hx hb dX12_layer_26 rfl (lv_at hl 0 rfl) ?_
    refine va_get (D := (dC, dI)) (ci := 12) (v := .int z_4) (C := RX12) (T := TX12) (N := 70) hx hb hts hiX12 hown hK hP 0 rfl rfl 3 (by decide) w__fieldLink_RX12_151_ShellHeapModel_layers_I_ (fun _ h9 => h9) rfl dX12_layer_27 ?_
    refine lv_iconst (v := 1) hx hb dX12_layer_30 (by decide) ?_
    refine lv_isub hx hb dX12_layer_31 ?_
    refine lv_topi (fun z_6 ez_6 => ?_)
    have kz_6 : (z_6).toInt = (z_4).toInt - (1 : Int) := by rw [ez_6]; exact z_sub (a := (z_4).toInt) (b := (1 : Int)) rfl rfl (by omega) (by omega)
    have hP9 := hP.sub (ws' := [(h0, .inr (12, [h0_0, h0_1, .int 0, .int z_4, h0_4, h0_5, h0_6, h0_7, h0_8, h0_9, h0_10, h0_11, h0_12, h0_13, h0_14, h0_15, h0_16, h0_17, h0_18, h0_19, h0_20, h0_21, h0_22, h0_23, h0_24, h0_25, h0_26, h0_27, h0_28, h0_29, h0_30, h0_31, h0_32, h0_33, h0_34, h0_35, h0_36, h0_37, h0_38, h0_39, h0_40, h0_41, h0_42, h0_43, h0_44, h0_45, h0_46, h0_47, h0_48, h0_49, h0_50, h0_51, h0_52, h0_53, h0_54, h0_55, h0_56, h0_57, h0_58, h0_59, h0_60, h0_61, h0_62, h0_63, h0_64, h0_65, h0_66, h0_67, h0_68, h0_69]))]) [0] rfl
    have hD9 := hD.sub (ws' := [(h0, .inr (12, [h0_0, h0_1, .int 0, .int z_4, h0_4, h0_5, h0_6, h0_7, h0_8, h0_9, h0_10, h0_11, h0_12, h0_13, h0_14, h0_15, h0_16, h0_17, h0_18, h0_19, h0_20, h0_21, h0_22, h0_23, h0_24, h0_25, h0_26, h0_27, h0_28, h0_29, h0_30, h0_31, h0_32, h0_33, h0_34, h0_35, h0_36, h0_37, h0_38, h0_39, h0_40, h0_41, h0_42, h0_43, h0_44, h0_45, h0_46, h0_47, h0_48, h0_49, h0_50, h0_51, h0_52, h0_53, h0_54, h0_55, h0_56, h0_57, h0_58, h0_59, h0_60, h0_61, h0_62, h0_63, h0_64, h0_65, h0_66, h0_67, h0_68, h0_69]))]) [0] (by decide) rfl
    have hK9 := hK.sub (tys' := []) [] rfl
    refine W.widen (k := 0) (n := 0) (Nat.le_of_ble_eq_true rfl) (Nat.le_of_ble_eq_true rfl) ?_
    exact W.iret (v := z_6) hx hb hr (fun t ht hW => ⟨⟨z_6, (), rfl, (show z_6 = v_layA ml by unfold v_layA; rw [if_pos (by omega)]; first | exact ez_6 | exact z_ii (by omega)), ⟨0, z_4, (by first | omega | decide), (show z_4 = v_layN ml by unfold v_layN; rw [if_pos (by omega)]; exact ez_4), by rw [ht]; exact hP9, va_K.moved hW.alike hK9, hD9⟩⟩, hS.F ht⟩) hS.2.2 dX12_layer_32
  · have k_7 : (ml).toInt = (12 : Int) := z_eq c_2
    refine lv_iconst (v := (-1)) hx hb dX12_layer_14 (by decide) ?_
    have hP9 := hP.sub (ws' := [(h0, .inr (12, [h0_0, h0_1, .int 0, .int ml, h0_4, h0_5, h0_6, h0_7, h0_8, h0_9, h0_10, h0_11, h0_12, h0_13, h0_14, h0_15, h0_16, h0_17, h0_18, h0_19, h0_20, h0_21, h0_22, h0_23, h0_24, h0_25, h0_26, h0_27, h0_28, h0_29, h0_30, h0_31, h0_32, h0_33, h0_34, h0_35, h0_36, h0_37, h0_38, h0_39, h0_40, h0_41, h0_42, h0_43, h0_44, h0_45, h0_46, h0_47, h0_48, h0_49, h0_50, h0_51, h0_52, h0_53, h0_54, h0_55, h0_56, h0_57, h0_58, h0_59, h0_60, h0_61, h0_62, h0_63, h0_64, h0_65, h0_66, h0_67, h0_68, h0_69]))]) [0] rfl
    have hD9 := hD.sub (ws' := [(h0, .inr (12, [h0_0, h0_1, .int 0, .int ml, h0_4, h0_5, h0_6, h0_7, h0_8, h0_9, h0_10, h0_11, h0_12, h0_13, h0_14, h0_15, h0_16, h0_17, h0_18, h0_19, h0_20, h0_21, h0_22, h0_23, h0_24, h0_25, h0_26, h0_27, h0_28, h0_29, h0_30, h0_31, h0_32, h0_33, h0_34, h0_35, h0_36, h0_37, h0_38, h0_39, h0_40, h0_41, h0_42, h0_43, h0_44, h0_45, h0_46, h0_47, h0_48, h0_49, h0_50, h0_51, h0_52, h0_53, h0_54, h0_55, h0_56, h0_57, h0_58, h0_59, h0_60, h0_61, h0_62, h0_63, h0_64, h0_65, h0_66, h0_67, h0_68, h0_69]))]) [0] (by decide) rfl
    have hK9 := hK.sub (tys' := []) [] rfl
    refine W.widen (k := 0) (n := 0) (Nat.le_of_ble_eq_true rfl) (Nat.le_of_ble_eq_true rfl) ?_
    exact W.iret (v := (-1)) hx hb hr (fun t ht hW => ⟨⟨(-1), (), rfl, (show (-1) = v_layA ml by unfold v_layA; rw [if_neg (by omega)]), ⟨0, ml, (by first | omega | decide), (show ml = v_layN ml by unfold v_layN; rw [if_neg (by omega)]), by rw [ht]; exact hP9, va_K.moved hW.alike hK9, hD9⟩⟩, hS.F ht⟩) hS.2.2 dX12_layer_15
def u_s_X0_hasLayerA : List Cond := .code yX0_hasLayer cX0_hasLayer 2 (some .boolean) :: ([.fieldLink RX0 28 "ShellHeap$Book" "layers" "I"] ++ (wsX00 ++ []))
theorem gd_s_X0_hasLayerA : z_gd u_s_X0_hasLayerA := z_gdc (by decide +kernel) (z_gda gdX0 (z_gd0))
set_option maxHeartbeats 4000000 in
set_option maxRecDepth 100000 in
theorem s_X0_hasLayerA (l : Launch) (dC : Nat → ClassId) (dI : Nat → Nat → Nat) (sz : Nat) (h0 : Nat) (p1 : Int32) (h0_0 : Value) (h0_1 : Value) (h0_2 : Value) (h0_3 : Value) (h0_4 : Value) (bl : Int32) (hB_bl : ((0 : Int) ≤ (bl).toInt ∧ (bl).toInt ≤ (12 : Int))) : Met l yX0_hasLayer u_s_X0_hasLayerA ({ frames := 0, cells := 0, slots := 0, locals := 0 }) (va_Pc [.ref h0, .int p1] (z_C (dC, dI) vwCl [(h0, .inr (0, [h0_0, h0_1, h0_2, h0_3, h0_4, .int bl]))] [] sz)) (va_Qi (fun (r : Int32) (_ : Unit) => (r = 1 ∧ (0 ≤ p1.toInt ∧ p1.toInt < bl.toInt)) ∨ (r = 0 ∧ ¬ (0 ≤ p1.toInt ∧ p1.toInt < bl.toInt))) (fun (_ : Unit) (_ : State) => True) (va_A [] sz)) 0 0 (va_A [] sz) := by
  refine Met.ofW (cc := cX0_hasLayer) (maxL := 2) (ret := (some .boolean)) (by decide) rfl ?_
  intro p e s m args below meth c s₁ B hml hv
  obtain ⟨rfl, hsz, hP, hK, hD0⟩ := hv
  have hx := B.exec
  have hb := B.bytes
  have hr := B.returns
  have hts := atoms_spec (ws := u_s_X0_hasLayerA) B.pre
  have hown : s.vm.findClass RX0 = some m.cls := findClass_of_methodNamed B.named
  have hlocks := B.notSynchronized
  subst hsz
  have hD := hD0
  generalize hAe : va_A [] s.heap.size = A
  have hA : ∀ q : Nat, s.heap.size ≤ q → A q := fun q h => by rw [← hAe]; exact Or.inr h
  have hS : va_S A s.heap s.heap [] := va_S.rf
  have hP : va_P (dC, dI) vwCl [(h0, .inr (0, [h0_0, h0_1, h0_2, h0_3, h0_4, .int bl]))] s.heap := hP
  have w__fieldLink_RX0_28_ShellHeap_Book_layers_I_ := hts (.fieldLink RX0 28 "ShellHeap$Book" "layers" "I") (by decide +kernel)
  have hiX0 := show ∀ w ∈ u_ws RX0 TX0 6, w ∈ u_s_X0_hasLayerA from fun w h => z_mc (z_mr (z_ml h))
  have krr_p1 := z_rng p1
  have hl := lv_entry ([.ref h0, .int p1]) (n := 2) (Nat.le_of_ble_eq_true rfl)
  rw [lg_entry_eq]
  generalize (lg_sl ([.ref h0, .int p1]) ++ List.replicate (2 - (lg_sl ([.ref h0, .int p1])).length) Slot.unset).toArray = ls at hl ⊢
  have hl : lv_has ls 2 [(0, .ref h0), (1, .int p1)] := hl
  refine lv_iload_n hx hb dX0_hasLayer_0 rfl (lv_at hl 1 rfl) ?_
  refine lv_if_lt (tgt := 16) hx hb dX0_hasLayer_1 (by decide) (fun c_1 => ?_) (fun c_1 => ?_)
  · have k_2 : (p1).toInt < (0 : Int) := z_lt c_1
    refine lv_iconst (v := 0) hx hb dX0_hasLayer_16 (by decide) ?_
    refine W.widen (k := 0) (n := 0) (Nat.le_of_ble_eq_true rfl) (Nat.le_of_ble_eq_true rfl) ?_
    exact W.zret (v := 0) hx hb hr (by rfl) (fun t ht hW => ⟨⟨0, (), rfl, (Or.inr (⟨rfl, by first | omega | decide⟩)), trivial⟩, hS.F ht⟩) hS.2.2 dX0_hasLayer_17
  · have k_3 : (p1).toInt ≥ (0 : Int) := z_nlt c_1
    refine lv_iload_n hx hb dX0_hasLayer_4 rfl (lv_at hl 1 rfl) ?_
    refine lv_aload_n hx hb dX0_hasLayer_5 rfl (lv_at hl 0 rfl) ?_
    refine va_get (D := (dC, dI)) (ci := 0) (v := .int bl) (C := RX0) (T := TX0) (N := 6) hx hb hts hiX0 hown hK hP 0 rfl rfl 5 (by decide) w__fieldLink_RX0_28_ShellHeap_Book_layers_I_ (fun _ h9 => h9) rfl dX0_hasLayer_6 ?_
    refine lv_icmp_ge (tgt := 16) hx hb dX0_hasLayer_9 (by decide) (fun c_4 => ?_) (fun c_4 => ?_)
    · have k_5 : (bl).toInt ≤ (p1).toInt := z_le c_4
      refine lv_iconst (v := 0) hx hb dX0_hasLayer_16 (by decide) ?_
      refine W.widen (k := 0) (n := 0) (Nat.le_of_ble_eq_true rfl) (Nat.le_of_ble_eq_true rfl) ?_
      exact W.zret (v := 0) hx hb hr (by rfl) (fun t ht hW => ⟨⟨0, (), rfl, (Or.inr (⟨rfl, by first | omega | decide⟩)), trivial⟩, hS.F ht⟩) hS.2.2 dX0_hasLayer_17
    · have k_6 : (bl).toInt > (p1).toInt := z_nle c_4
      refine lv_iconst (v := 1) hx hb dX0_hasLayer_12 (by decide) ?_
      refine lv_goto (tgt := 17) hx hb dX0_hasLayer_13 (by decide) ?_
      refine W.widen (k := 0) (n := 0) (Nat.le_of_ble_eq_true rfl) (Nat.le_of_ble_eq_true rfl) ?_
      exact W.zret (v := 1) hx hb hr (by rfl) (fun t ht hW => ⟨⟨1, (), rfl, (Or.inl (⟨rfl, by first | omega | decide⟩)), trivial⟩, hS.F ht⟩) hS.2.2 dX0_hasLayer_17
def u_s_X12_isLayerA : List Cond := .code yX12_isLayer cX12_isLayer 2 (some .boolean) :: ([.fieldLink RX12 151 "ShellHeapModel" "layers" "I"] ++ (wsX120 ++ []))
theorem gd_s_X12_isLayerA : z_gd u_s_X12_isLayerA := z_gdc (by decide +kernel) (z_gda gdX12 (z_gd0))
set_option maxHeartbeats 4000000 in
set_option maxRecDepth 100000 in
theorem s_X12_isLayerA (l : Launch) (dC : Nat → ClassId) (dI : Nat → Nat → Nat) (sz : Nat) (h0 : Nat) (p1 : Int32) (h0_0 : Value) (h0_1 : Value) (h0_2 : Value) (ml : Int32) (h0_4 : Value) (h0_5 : Value) (h0_6 : Value) (h0_7 : Value) (h0_8 : Value) (h0_9 : Value) (h0_10 : Value) (h0_11 : Value) (h0_12 : Value) (h0_13 : Value) (h0_14 : Value) (h0_15 : Value) (h0_16 : Value) (h0_17 : Value) (h0_18 : Value) (h0_19 : Value) (h0_20 : Value) (h0_21 : Value) (h0_22 : Value) (h0_23 : Value) (h0_24 : Value) (h0_25 : Value) (h0_26 : Value) (h0_27 : Value) (h0_28 : Value) (h0_29 : Value) (h0_30 : Value) (h0_31 : Value) (h0_32 : Value) (h0_33 : Value) (h0_34 : Value) (h0_35 : Value) (h0_36 : Value) (h0_37 : Value) (h0_38 : Value) (h0_39 : Value) (h0_40 : Value) (h0_41 : Value) (h0_42 : Value) (h0_43 : Value) (h0_44 : Value) (h0_45 : Value) (h0_46 : Value) (h0_47 : Value) (h0_48 : Value) (h0_49 : Value) (h0_50 : Value) (h0_51 : Value) (h0_52 : Value) (h0_53 : Value) (h0_54 : Value) (h0_55 : Value) (h0_56 : Value) (h0_57 : Value) (h0_58 : Value) (h0_59 : Value) (h0_60 : Value) (h0_61 : Value) (h0_62 : Value) (h0_63 : Value) (h0_64 : Value) (h0_65 : Value) (h0_66 : Value) (h0_67 : Value) (h0_68 : Value) (h0_69 : Value) (hB_ml : ((0 : Int) ≤ (ml).toInt ∧ (ml).toInt ≤ (12 : Int))) : Met l yX12_isLayer u_s_X12_isLayerA ({ frames := 0, cells := 0, slots := 0, locals := 0 }) (va_Pc [.ref h0, .int p1] (z_C (dC, dI) vwCl [(h0, .inr (12, [h0_0, h0_1, h0_2, .int ml, h0_4, h0_5, h0_6, h0_7, h0_8, h0_9, h0_10, h0_11, h0_12, h0_13, h0_14, h0_15, h0_16, h0_17, h0_18, h0_19, h0_20, h0_21, h0_22, h0_23, h0_24, h0_25, h0_26, h0_27, h0_28, h0_29, h0_30, h0_31, h0_32, h0_33, h0_34, h0_35, h0_36, h0_37, h0_38, h0_39, h0_40, h0_41, h0_42, h0_43, h0_44, h0_45, h0_46, h0_47, h0_48, h0_49, h0_50, h0_51, h0_52, h0_53, h0_54, h0_55, h0_56, h0_57, h0_58, h0_59, h0_60, h0_61, h0_62, h0_63, h0_64, h0_65, h0_66, h0_67, h0_68, h0_69]))] [] sz)) (va_Qi (fun (r : Int32) (_ : Unit) => (r = 1 ∧ (0 ≤ p1.toInt ∧ p1.toInt < ml.toInt)) ∨ (r = 0 ∧ ¬ (0 ≤ p1.toInt ∧ p1.toInt < ml.toInt))) (fun (_ : Unit) (_ : State) => True) (va_A [] sz)) 0 0 (va_A [] sz) := by
  refine Met.ofW (cc := cX12_isLayer) (maxL := 2) (ret := (some .boolean)) (by decide) rfl ?_
  intro p e s m args below meth c s₁ B hml hv
  obtain ⟨rfl, hsz, hP, hK, hD0⟩ := hv
  have hx := B.exec
  have hb := B.bytes
  have hr := B.returns
  have hts := atoms_spec (ws := u_s_X12_isLayerA) B.pre
  have hown : s.vm.findClass RX12 = some m.cls := findClass_of_methodNamed B.named
  have hlocks := B.notSynchronized
  subst hsz
  have hD := hD0
  generalize hAe : va_A [] s.heap.size = A
  have hA : ∀ q : Nat, s.heap.size ≤ q → A q := fun q h => by rw [← hAe]; exact Or.inr h
  have hS : va_S A s.heap s.heap [] := va_S.rf
  have hP : va_P (dC, dI) vwCl [(h0, .inr (12, [h0_0, h0_1, h0_2, .int ml, h0_4, h0_5, h0_6, h0_7, h0_8, h0_9, h0_10, h0_11, h0_12, h0_13, h0_14, h0_15, h0_16, h0_17, h0_18, h0_19, h0_20, h0_21, h0_22, h0_23, h0_24, h0_25, h0_26, h0_27, h0_28, h0_29, h0_30, h0_31, h0_32, h0_33, h0_34, h0_35, h0_36, h0_37, h0_38, h0_39, h0_40, h0_41, h0_42, h0_43, h0_44, h0_45, h0_46, h0_47, h0_48, h0_49, h0_50, h0_51, h0_52, h0_53, h0_54, h0_55, h0_56, h0_57, h0_58, h0_59, h0_60, h0_61, h0_62, h0_63, h0_64, h0_65, h0_66, h0_67, h0_68, h0_69]))] s.heap := hP
  have w__fieldLink_RX12_151_ShellHeapModel_layers_I_ := hts (.fieldLink RX12 151 "ShellHeapModel" "layers" "I") (by decide +kernel)
  have hiX12 := show ∀ w ∈ u_ws RX12 TX12 70, w ∈ u_s_X12_isLayerA from fun w h => z_mc (z_mr (z_ml h))
  have krr_p1 := z_rng p1
  have hl := lv_entry ([.ref h0, .int p1]) (n := 2) (Nat.le_of_ble_eq_true rfl)
  rw [lg_entry_eq]
  generalize (lg_sl ([.ref h0, .int p1]) ++ List.replicate (2 - (lg_sl ([.ref h0, .int p1])).length) Slot.unset).toArray = ls at hl ⊢
  have hl : lv_has ls 2 [(0, .ref h0), (1, .int p1)] := hl
  refine lv_iload_n hx hb dX12_isLayer_0 rfl (lv_at hl 1 rfl) ?_
  refine lv_if_lt (tgt := 16) hx hb dX12_isLayer_1 (by decide) (fun c_1 => ?_) (fun c_1 => ?_)
  · have k_2 : (p1).toInt < (0 : Int) := z_lt c_1
    refine lv_iconst (v := 0) hx hb dX12_isLayer_16 (by decide) ?_
    refine W.widen (k := 0) (n := 0) (Nat.le_of_ble_eq_true rfl) (Nat.le_of_ble_eq_true rfl) ?_
    exact W.zret (v := 0) hx hb hr (by rfl) (fun t ht hW => ⟨⟨0, (), rfl, (Or.inr (⟨rfl, by first | omega | decide⟩)), trivial⟩, hS.F ht⟩) hS.2.2 dX12_isLayer_17
  · have k_3 : (p1).toInt ≥ (0 : Int) := z_nlt c_1
    refine lv_iload_n hx hb dX12_isLayer_4 rfl (lv_at hl 1 rfl) ?_
    refine lv_aload_n hx hb dX12_isLayer_5 rfl (lv_at hl 0 rfl) ?_
    refine va_get (D := (dC, dI)) (ci := 12) (v := .int ml) (C := RX12) (T := TX12) (N := 70) hx hb hts hiX12 hown hK hP 0 rfl rfl 3 (by decide) w__fieldLink_RX12_151_ShellHeapModel_layers_I_ (fun _ h9 => h9) rfl dX12_isLayer_6 ?_
    refine lv_icmp_ge (tgt := 16) hx hb dX12_isLayer_9 (by decide) (fun c_4 => ?_) (fun c_4 => ?_)
    · have k_5 : (ml).toInt ≤ (p1).toInt := z_le c_4
      refine lv_iconst (v := 0) hx hb dX12_isLayer_16 (by decide) ?_
      refine W.widen (k := 0) (n := 0) (Nat.le_of_ble_eq_true rfl) (Nat.le_of_ble_eq_true rfl) ?_
      exact W.zret (v := 0) hx hb hr (by rfl) (fun t ht hW => ⟨⟨0, (), rfl, (Or.inr (⟨rfl, by first | omega | decide⟩)), trivial⟩, hS.F ht⟩) hS.2.2 dX12_isLayer_17
    · have k_6 : (ml).toInt > (p1).toInt := z_nle c_4
      refine lv_iconst (v := 1) hx hb dX12_isLayer_12 (by decide) ?_
      refine lv_goto (tgt := 17) hx hb dX12_isLayer_13 (by decide) ?_
      refine W.widen (k := 0) (n := 0) (Nat.le_of_ble_eq_true rfl) (Nat.le_of_ble_eq_true rfl) ?_
      exact W.zret (v := 1) hx hb hr (by rfl) (fun t ht hW => ⟨⟨1, (), rfl, (Or.inl (⟨rfl, by first | omega | decide⟩)), trivial⟩, hS.F ht⟩) hS.2.2 dX12_isLayer_17
def u_s_X9_addA : List Cond := .code yX9_add cX9_add 5 (some .int) :: ([.fieldLink RX9 21 "ShellHeap$Sizes" "measured" "I", .fieldLink RX9 11 "ShellHeap$Sizes" "layerOf" "[I", .fieldLink RX9 15 "ShellHeap$Sizes" "marks" "[I"] ++ (wsX90 ++ []))
theorem gd_s_X9_addA : z_gd u_s_X9_addA := z_gdc (by decide +kernel) (z_gda gdX9 (z_gd0))
set_option maxHeartbeats 4000000 in
set_option maxRecDepth 100000 in
theorem s_X9_addA (l : Launch) (dC : Nat → ClassId) (dI : Nat → Nat → Nat) (sz : Nat) (h0 : Nat) (p1 : Int32) (p2 : Int32) (p3 : Int32) (p4 : Int32) (h1 : Nat) (h2 : Nat) (h0_2 : Value) (sm : Int32) (ch1 : ClassId) (fh1 : Nat → Int32) (ch2 : ClassId) (fh2 : Nat → Int32) (bl : Int32) (hB_sm : ((0 : Int) ≤ (sm).toInt ∧ (sm).toInt ≤ (200 : Int))) (hI_h2 : ∀ j : Nat, ((0 : Int) ≤ (fh2 j).toInt ∧ (fh2 j).toInt ≤ (99 : Int))) (hin : (0 ≤ p1.toInt ∧ p1.toInt < bl.toInt)) : Met l yX9_add u_s_X9_addA ({ frames := 0, cells := 0, slots := 0, locals := 0 }) (va_Pc [.ref h0, .int p1, .int p2, .int p3, .int p4] (z_C (dC, dI) vwCl [(h0, .inr (9, [.ref h1, .ref h2, h0_2, .int sm])), (h1, .inl (ch1, 200, .inl fh1)), (h2, .inl (ch2, 600, .inl fh2))] [(ch1, .int), (ch2, .int)] sz)) (va_Qi (fun (r : Int32) (_ : Unit) => r = v_meA bl sm p1 p2 p3 p4) (fun (_ : Unit) (t : State) => ∃ (n_h0_measured : Int32), ∃ (g_h1 : Nat → Int32), ∃ (g_h2 : Nat → Int32), ((0 : Int) ≤ (n_h0_measured).toInt ∧ (n_h0_measured).toInt ≤ (200 : Int)) ∧ (∀ j : Nat, ((0 : Int) ≤ (g_h2 j).toInt ∧ (g_h2 j).toInt ≤ (99 : Int))) ∧ (n_h0_measured = v_meN bl sm p1 p2 p3 p4) ∧ va_P (dC, dI) vwCl [(h0, .inr (9, [.ref h1, .ref h2, h0_2, .int n_h0_measured])), (h1, .inl (ch1, 200, .inl g_h1)), (h2, .inl (ch2, 600, .inl g_h2))] t.heap ∧ va_K (dC, dI) vwCl [] t ∧ va_D (va_A [(h0, .inr (9, [.ref h1, .ref h2, h0_2, .int sm])), (h1, .inl (ch1, 200, .inl fh1)), (h2, .inl (ch2, 600, .inl fh2))] sz) [(h0, .inr (9, [.ref h1, .ref h2, h0_2, .int n_h0_measured])), (h1, .inl (ch1, 200, .inl g_h1)), (h2, .inl (ch2, 600, .inl g_h2))]) (va_A [(h0, .inr (9, [.ref h1, .ref h2, h0_2, .int sm])), (h1, .inl (ch1, 200, .inl fh1)), (h2, .inl (ch2, 600, .inl fh2))] sz)) 0 0 (va_A [(h0, .inr (9, [.ref h1, .ref h2, h0_2, .int sm])), (h1, .inl (ch1, 200, .inl fh1)), (h2, .inl (ch2, 600, .inl fh2))] sz) := by
  refine Met.ofW (cc := cX9_add) (maxL := 5) (ret := (some .int)) (by decide) rfl ?_
  intro p e s m args below meth c s₁ B hml hv
  obtain ⟨rfl, hsz, hP, hK, hD0⟩ := hv
  have hx := B.exec
  have hb := B.bytes
  have hr := B.returns
  have hts := atoms_spec (ws := u_s_X9_addA) B.pre
  have hown : s.vm.findClass RX9 = some m.cls := findClass_of_methodNamed B.named
  have hlocks := B.notSynchronized
  subst hsz
  have hD := hD0.self (sz := s.heap.size)
  generalize hAe : va_A [(h0, .inr (9, [.ref h1, .ref h2, h0_2, .int sm])), (h1, .inl (ch1, 200, .inl fh1)), (h2, .inl (ch2, 600, .inl fh2))] s.heap.size = A at hD ⊢
  have hA : ∀ q : Nat, s.heap.size ≤ q → A q := fun q h => by rw [← hAe]; exact Or.inr h
  have hS : va_S A s.heap s.heap [] := va_S.rf
  have hP : va_P (dC, dI) vwCl [(h0, .inr (9, [.ref h1, .ref h2, h0_2, .int sm])), (h1, .inl (ch1, 200, .inl fh1)), (h2, .inl (ch2, 600, .inl fh2))] s.heap := hP
  have w__fieldLink_RX9_21_ShellHeap_Sizes_measured_I_ := hts (.fieldLink RX9 21 "ShellHeap$Sizes" "measured" "I") (by decide +kernel)
  have hiX9 := show ∀ w ∈ u_ws RX9 TX9 4, w ∈ u_s_X9_addA from fun w h => z_mc (z_mr (z_ml h))
  have w__fieldLink_RX9_11_ShellHeap_Sizes_layerOf_I_ := hts (.fieldLink RX9 11 "ShellHeap$Sizes" "layerOf" "[I") (by decide +kernel)
  have w__fieldLink_RX9_15_ShellHeap_Sizes_marks_I_ := hts (.fieldLink RX9 15 "ShellHeap$Sizes" "marks" "[I") (by decide +kernel)
  have krr_p1 := z_rng p1
  have krr_p2 := z_rng p2
  have krr_p3 := z_rng p3
  have krr_p4 := z_rng p4
  have hl := lv_entry ([.ref h0, .int p1, .int p2, .int p3, .int p4]) (n := 5) (Nat.le_of_ble_eq_true rfl)
  rw [lg_entry_eq]
  generalize (lg_sl ([.ref h0, .int p1, .int p2, .int p3, .int p4]) ++ List.replicate (5 - (lg_sl ([.ref h0, .int p1, .int p2, .int p3, .int p4])).length) Slot.unset).toArray = ls at hl ⊢
  have hl : lv_has ls 5 [(0, .ref h0), (1, .int p1), (2, .int p2), (3, .int p3), (4, .int p4)] := hl
  refine lv_iload_n hx hb dX9_add_0 rfl (lv_at hl 2 rfl) ?_
  refine lv_if_lt (tgt := 32) hx hb dX9_add_1 (by decide) (fun c_1 => ?_) (fun c_1 => ?_)
  · have k_2 : (p2).toInt < (0 : Int) := z_lt c_1
    refine lv_iconst (v := (-1)) hx hb dX9_add_32 (by decide) ?_
    have hP9 := hP.sub (ws' := [(h0, .inr (9, [.ref h1, .ref h2, h0_2, .int sm])), (h1, .inl (ch1, 200, .inl fh1)), (h2, .inl (ch2, 600, .inl fh2))]) [0, 1, 2] rfl
    have hD9 := hD.sub (ws' := [(h0, .inr (9, [.ref h1, .ref h2, h0_2, .int sm])), (h1, .inl (ch1, 200, .inl fh1)), (h2, .inl (ch2, 600, .inl fh2))]) [0, 1, 2] (by decide) rfl
    have hK9 := hK.sub (tys' := []) [] rfl
    refine W.widen (k := 0) (n := 0) (Nat.le_of_ble_eq_true rfl) (Nat.le_of_ble_eq_true rfl) ?_
    exact W.iret (v := (-1)) hx hb hr (fun t ht hW => ⟨⟨(-1), (), rfl, (show (-1) = v_meA bl sm p1 p2 p3 p4 by unfold v_meA; rw [if_neg (by omega)]), ⟨sm, fh1, fh2, (by first | omega | decide), hI_h2, (show sm = v_meN bl sm p1 p2 p3 p4 by unfold v_meN; rw [if_neg (by omega)]), by rw [ht]; exact hP9, va_K.moved hW.alike hK9, hD9⟩⟩, hS.F ht⟩) hS.2.2 dX9_add_33
  · have k_3 : (p2).toInt ≥ (0 : Int) := z_nlt c_1
    refine lv_iload_n hx hb dX9_add_4 rfl (lv_at hl 2 rfl) ?_
    refine lv_bipush (v := 99) hx hb dX9_add_5 (by decide) ?_
    refine lv_icmp_gt (tgt := 32) hx hb dX9_add_7 (by decide) (fun c_4 => ?_) (fun c_4 => ?_)
    · have k_5 : (99 : Int) < (p2).toInt := z_lt c_4
      refine lv_iconst (v := (-1)) hx hb dX9_add_32 (by decide) ?_
      have hP9 := hP.sub (ws' := [(h0, .inr (9, [.ref h1, .ref h2, h0_2, .int sm])), (h1, .inl (ch1, 200, .inl fh1)), (h2, .inl (ch2, 600, .inl fh2))]) [0, 1, 2] rfl
      have hD9 := hD.sub (ws' := [(h0, .inr (9, [.ref h1, .ref h2, h0_2, .int sm])), (h1, .inl (ch1, 200, .inl fh1)), (h2, .inl (ch2, 600, .inl fh2))]) [0, 1, 2] (by decide) rfl
      have hK9 := hK.sub (tys' := []) [] rfl
      refine W.widen (k := 0) (n := 0) (Nat.le_of_ble_eq_true rfl) (Nat.le_of_ble_eq_true rfl) ?_
      exact W.iret (v := (-1)) hx hb hr (fun t ht hW => ⟨⟨(-1), (), rfl, (show (-1) = v_meA bl sm p1 p2 p3 p4 by unfold v_meA; rw [if_neg (by omega)]), ⟨sm, fh1, fh2, (by first | omega | decide), hI_h2, (show sm = v_meN bl sm p1 p2 p3 p4 by unfold v_meN; rw [if_neg (by omega)]), by rw [ht]; exact hP9, va_K.moved hW.alike hK9, hD9⟩⟩, hS.F ht⟩) hS.2.2 dX9_add_33
    · have k_6 : (99 : Int) ≥ (p2).toInt := z_nlt c_4
      refine lv_iload_n hx hb dX9_add_10 rfl (lv_at hl 3 rfl) ?_
      refine lv_if_lt (tgt := 32) hx hb dX9_add_11 (by decide) (fun c_7 => ?_) (fun c_7 => ?_)
      · have k_8 : (p3).toInt < (0 : Int) := z_lt c_7
        refine lv_iconst (v := (-1)) hx hb dX9_add_32 (by decide) ?_
        have hP9 := hP.sub (ws' := [(h0, .inr (9, [.ref h1, .ref h2, h0_2, .int sm])), (h1, .inl (ch1, 200, .inl fh1)), (h2, .inl (ch2, 600, .inl fh2))]) [0, 1, 2] rfl
        have hD9 := hD.sub (ws' := [(h0, .inr (9, [.ref h1, .ref h2, h0_2, .int sm])), (h1, .inl (ch1, 200, .inl fh1)), (h2, .inl (ch2, 600, .inl fh2))]) [0, 1, 2] (by decide) rfl
        have hK9 := hK.sub (tys' := []) [] rfl
        refine W.widen (k := 0) (n := 0) (Nat.le_of_ble_eq_true rfl) (Nat.le_of_ble_eq_true rfl) ?_
        exact W.iret (v := (-1)) hx hb hr (fun t ht hW => ⟨⟨(-1), (), rfl, (show (-1) = v_meA bl sm p1 p2 p3 p4 by unfold v_meA; rw [if_neg (by omega)]), ⟨sm, fh1, fh2, (by first | omega | decide), hI_h2, (show sm = v_meN bl sm p1 p2 p3 p4 by unfold v_meN; rw [if_neg (by omega)]), by rw [ht]; exact hP9, va_K.moved hW.alike hK9, hD9⟩⟩, hS.F ht⟩) hS.2.2 dX9_add_33
      · have k_9 : (p3).toInt ≥ (0 : Int) := z_nlt c_7
        refine lv_iload_n hx hb dX9_add_14 rfl (lv_at hl 3 rfl) ?_
        refine lv_bipush (v := 30) hx hb dX9_add_15 (by decide) ?_
        refine lv_icmp_gt (tgt := 32) hx hb dX9_add_17 (by decide) (fun c_10 => ?_) (fun c_10 => ?_)
        · have k_11 : (30 : Int) < (p3).toInt := z_lt c_10
          refine lv_iconst (v := (-1)) hx hb dX9_add_32 (by decide) ?_
          have hP9 := hP.sub (ws' := [(h0, .inr (9, [.ref h1, .ref h2, h0_2, .int sm])), (h1, .inl (ch1, 200, .inl fh1)), (h2, .inl (ch2, 600, .inl fh2))]) [0, 1, 2] rfl
          have hD9 := hD.sub (ws' := [(h0, .inr (9, [.ref h1, .ref h2, h0_2, .int sm])), (h1, .inl (ch1, 200, .inl fh1)), (h2, .inl (ch2, 600, .inl fh2))]) [0, 1, 2] (by decide) rfl
          have hK9 := hK.sub (tys' := []) [] rfl
          refine W.widen (k := 0) (n := 0) (Nat.le_of_ble_eq_true rfl) (Nat.le_of_ble_eq_true rfl) ?_
          exact W.iret (v := (-1)) hx hb hr (fun t ht hW => ⟨⟨(-1), (), rfl, (show (-1) = v_meA bl sm p1 p2 p3 p4 by unfold v_meA; rw [if_neg (by omega)]), ⟨sm, fh1, fh2, (by first | omega | decide), hI_h2, (show sm = v_meN bl sm p1 p2 p3 p4 by unfold v_meN; rw [if_neg (by omega)]), by rw [ht]; exact hP9, va_K.moved hW.alike hK9, hD9⟩⟩, hS.F ht⟩) hS.2.2 dX9_add_33
        · have k_12 : (30 : Int) ≥ (p3).toInt := z_nlt c_10
          refine lv_iload hx hb dX9_add_20 (lv_at hl 4 rfl) ?_
          refine lv_if_lt (tgt := 32) hx hb dX9_add_22 (by decide) (fun c_13 => ?_) (fun c_13 => ?_)
          · have k_14 : (p4).toInt < (0 : Int) := z_lt c_13
            refine lv_iconst (v := (-1)) hx hb dX9_add_32 (by decide) ?_
            have hP9 := hP.sub (ws' := [(h0, .inr (9, [.ref h1, .ref h2, h0_2, .int sm])), (h1, .inl (ch1, 200, .inl fh1)), (h2, .inl (ch2, 600, .inl fh2))]) [0, 1, 2] rfl
            have hD9 := hD.sub (ws' := [(h0, .inr (9, [.ref h1, .ref h2, h0_2, .int sm])), (h1, .inl (ch1, 200, .inl fh1)), (h2, .inl (ch2, 600, .inl fh2))]) [0, 1, 2] (by decide) rfl
            have hK9 := hK.sub (tys' := []) [] rfl
            refine W.widen (k := 0) (n := 0) (Nat.le_of_ble_eq_true rfl) (Nat.le_of_ble_eq_true rfl) ?_
            exact W.iret (v := (-1)) hx hb hr (fun t ht hW => ⟨⟨(-1), (), rfl, (show (-1) = v_meA bl sm p1 p2 p3 p4 by unfold v_meA; rw [if_neg (by omega)]), ⟨sm, fh1, fh2, (by first | omega | decide), hI_h2, (show sm = v_meN bl sm p1 p2 p3 p4 by unfold v_meN; rw [if_neg (by omega)]), by rw [ht]; exact hP9, va_K.moved hW.alike hK9, hD9⟩⟩, hS.F ht⟩) hS.2.2 dX9_add_33
          · have k_15 : (p4).toInt ≥ (0 : Int) := z_nlt c_13
            refine lv_iload hx hb dX9_add_25 (lv_at hl 4 rfl) ?_
            refine lv_bipush (v := 99) hx hb dX9_add_27 (by decide) ?_
            refine lv_icmp_le (tgt := 34) hx hb dX9_add_29 (by decide) (fun c_16 => ?_) (fun c_16 => ?_)
            · have k_17 : (p4).toInt ≤ (99 : Int) := z_le c_16
              refine lv_aload_n hx hb dX9_add_34 rfl (lv_at hl 0 rfl) ?_
              refine va_get (D := (dC, dI)) (ci := 9) (v := .int sm) (C := RX9) (T := TX9) (N := 4) hx hb hts hiX9 hown hK hP 0 rfl rfl 3 (by decide) w__fieldLink_RX9_21_ShellHeap_Sizes_measured_I_ (fun _ h9 => h9) rfl dX9_add_35 ?_
              refine lv_sipush (v := 200) hx hb dX9_add_38 (by decide) ?_
              refine lv_icmp_lt (tgt := 46) hx hb dX9_add_41 (by decide) (fun c_18 => ?_) (fun c_18 => ?_)
              · have k_19 : (sm).toInt < (200 : Int) := z_lt c_18
                refine lv_aload_n hx hb dX9_add_46 rfl (lv_at hl 0 rfl) ?_
                refine va_get (D := (dC, dI)) (ci := 9) (v := .ref h1) (C := RX9) (T := TX9) (N := 4) hx hb hts hiX9 hown hK hP 0 rfl rfl 0 (by decide) w__fieldLink_RX9_11_ShellHeap_Sizes_layerOf_I_ (fun _ h9 => h9) rfl dX9_add_47 ?_
                refine lv_aload_n hx hb dX9_add_50 rfl (lv_at hl 0 rfl) ?_
                refine va_get (D := (dC, dI)) (ci := 9) (v := .int sm) (C := RX9) (T := TX9) (N := 4) hx hb hts hiX9 hown hK hP 0 rfl rfl 3 (by decide) w__fieldLink_RX9_21_ShellHeap_Sizes_measured_I_ (fun _ h9 => h9) rfl dX9_add_51 ?_
                refine lv_iload_n hx hb dX9_add_54 rfl (lv_at hl 1 rfl) ?_
                refine va_iast hx hb hK hP hD hS 1 0 rfl rfl (z_vpin (by omega) (by omega)) dX9_add_55 (fun H_20 locs hP hD hS => ?_)
                have hP : va_P (dC, dI) vwCl [(h0, .inr (9, [.ref h1, .ref h2, h0_2, .int sm])), (h1, .inl (ch1, 200, .inl (upd fh1 (sm : Int32).toNatClampNeg p1))), (h2, .inl (ch2, 600, .inl fh2))] H_20 := hP
                have hD : va_D A [(h0, .inr (9, [.ref h1, .ref h2, h0_2, .int sm])), (h1, .inl (ch1, 200, .inl (upd fh1 (sm : Int32).toNatClampNeg p1))), (h2, .inl (ch2, 600, .inl fh2))] := hD
                generalize (upd fh1 (sm : Int32).toNatClampNeg p1) = f_21 at hP hD
                refine lv_aload_n hx hb dX9_add_56 rfl (lv_at hl 0 rfl) ?_
                refine va_get (D := (dC, dI)) (ci := 9) (v := .ref h2) (C := RX9) (T := TX9) (N := 4) hx hb hts hiX9 hown hK hP 0 rfl rfl 1 (by decide) w__fieldLink_RX9_15_ShellHeap_Sizes_marks_I_ (fun _ h9 => h9) rfl dX9_add_57 ?_
                refine lv_aload_n hx hb dX9_add_60 rfl (lv_at hl 0 rfl) ?_
                refine va_get (D := (dC, dI)) (ci := 9) (v := .int sm) (C := RX9) (T := TX9) (N := 4) hx hb hts hiX9 hown hK hP 0 rfl rfl 3 (by decide) w__fieldLink_RX9_21_ShellHeap_Sizes_measured_I_ (fun _ h9 => h9) rfl dX9_add_61 ?_
                refine lv_iconst (v := 3) hx hb dX9_add_64 (by decide) ?_
                refine lv_imul hx hb dX9_add_65 ?_
                refine lv_topi (fun z_22 ez_22 => ?_)
                have kz_22 : (z_22).toInt = (sm).toInt * (3 : Int) := by rw [ez_22]; exact z_mul (a := (sm).toInt) (b := (3 : Int)) rfl rfl (by omega) (by omega)
                refine lv_iload_n hx hb dX9_add_66 rfl (lv_at hl 2 rfl) ?_
                refine va_iast hx hb hK hP hD hS 2 1 rfl rfl (z_vpin (by omega) (by omega)) dX9_add_67 (fun H_23 locs hP hD hS => ?_)
                have hP : va_P (dC, dI) vwCl [(h0, .inr (9, [.ref h1, .ref h2, h0_2, .int sm])), (h1, .inl (ch1, 200, .inl f_21)), (h2, .inl (ch2, 600, .inl (upd fh2 (z_22 : Int32).toNatClampNeg p2)))] H_23 := hP
                have hD : va_D A [(h0, .inr (9, [.ref h1, .ref h2, h0_2, .int sm])), (h1, .inl (ch1, 200, .inl f_21)), (h2, .inl (ch2, 600, .inl (upd fh2 (z_22 : Int32).toNatClampNeg p2)))] := hD
                have hI_f_24 : ∀ j : Nat, ((0 : Int) ≤ ((upd fh2 (z_22 : Int32).toNatClampNeg p2) j).toInt ∧ ((upd fh2 (z_22 : Int32).toNatClampNeg p2) j).toInt ≤ (99 : Int)) := z_updP (P := fun v => ((0 : Int) ≤ (v).toInt ∧ (v).toInt ≤ (99 : Int))) hI_h2 (show ((0 : Int) ≤ (p2).toInt ∧ (p2).toInt ≤ (99 : Int)) from by first | omega | decide)
                generalize (upd fh2 (z_22 : Int32).toNatClampNeg p2) = f_24 at hP hD hI_f_24
                refine lv_aload_n hx hb dX9_add_68 rfl (lv_at hl 0 rfl) ?_
                refine va_get (D := (dC, dI)) (ci := 9) (v := .ref h2) (C := RX9) (T := TX9) (N := 4) hx hb hts hiX9 hown hK hP 0 rfl rfl 1 (by decide) w__fieldLink_RX9_15_ShellHeap_Sizes_marks_I_ (fun _ h9 => h9) rfl dX9_add_69 ?_
                refine lv_aload_n hx hb dX9_add_72 rfl (lv_at hl 0 rfl) ?_
                refine va_get (D := (dC, dI)) (ci := 9) (v := .int sm) (C := RX9) (T := TX9) (N := 4) hx hb hts hiX9 hown hK hP 0 rfl rfl 3 (by decide) w__fieldLink_RX9_21_ShellHeap_Sizes_measured_I_ (fun _ h9 => h9) rfl dX9_add_73 ?_
                refine lv_iconst (v := 3) hx hb dX9_add_76 (by decide) ?_
                refine lv_imul hx hb dX9_add_77 ?_
                refine lv_topi (fun z_25 ez_25 => ?_)
                have kz_25 : (z_25).toInt = (sm).toInt * (3 : Int) := by rw [ez_25]; exact z_mul (a := (sm).toInt) (b := (3 : Int)) rfl rfl (by omega) (by omega)
                refine lv_iconst (v := 1) hx hb dX9_add_78 (by decide) ?_
                refine lv_iadd hx hb dX9_add_79 ?_
                refine lv_topi (fun z_26 ez_26 => ?_)
                have kz_26 : (z_26).toInt = (z_25).toInt + (1 : Int) := by rw [ez_26]; exact z_add (a := (z_25).toInt) (b := (1 : Int)) rfl rfl (by omega) (by omega)
                refine lv_iload_n hx hb dX9_add_80 rfl (lv_at hl 3 rfl) ?_
                refine va_iast hx hb hK hP hD hS 2 1 rfl rfl (z_vpin (by omega) (by omega)) dX9_add_81 (fun H_27 locs hP hD hS => ?_)
                have hP : va_P (dC, dI) vwCl [(h0, .inr (9, [.ref h1, .ref h2, h0_2, .int sm])), (h1, .inl (ch1, 200, .inl f_21)), (h2, .inl (ch2, 600, .inl (upd f_24 (z_26 : Int32).toNatClampNeg p3)))] H_27 := hP
                have hD : va_D A [(h0, .inr (9, [.ref h1, .ref h2, h0_2, .int sm])), (h1, .inl (ch1, 200, .inl f_21)), (h2, .inl (ch2, 600, .inl (upd f_24 (z_26 : Int32).toNatClampNeg p3)))] := hD
                have hI_f_28 : ∀ j : Nat, ((0 : Int) ≤ ((upd f_24 (z_26 : Int32).toNatClampNeg p3) j).toInt ∧ ((upd f_24 (z_26 : Int32).toNatClampNeg p3) j).toInt ≤ (99 : Int)) := z_updP (P := fun v => ((0 : Int) ≤ (v).toInt ∧ (v).toInt ≤ (99 : Int))) hI_f_24 (show ((0 : Int) ≤ (p3).toInt ∧ (p3).toInt ≤ (99 : Int)) from by first | omega | decide)
                generalize (upd f_24 (z_26 : Int32).toNatClampNeg p3) = f_28 at hP hD hI_f_28
                refine lv_aload_n hx hb dX9_add_82 rfl (lv_at hl 0 rfl) ?_
                refine va_get (D := (dC, dI)) (ci := 9) (v := .ref h2) (C := RX9) (T := TX9) (N := 4) hx hb hts hiX9 hown hK hP 0 rfl rfl 1 (by decide) w__fieldLink_RX9_15_ShellHeap_Sizes_marks_I_ (fun _ h9 => h9) rfl dX9_add_83 ?_
                refine lv_aload_n hx hb dX9_add_86 rfl (lv_at hl 0 rfl) ?_
                refine va_get (D := (dC, dI)) (ci := 9) (v := .int sm) (C := RX9) (T := TX9) (N := 4) hx hb hts hiX9 hown hK hP 0 rfl rfl 3 (by decide) w__fieldLink_RX9_21_ShellHeap_Sizes_measured_I_ (fun _ h9 => h9) rfl dX9_add_87 ?_
                refine lv_iconst (v := 3) hx hb dX9_add_90 (by decide) ?_
                refine lv_imul hx hb dX9_add_91 ?_
                refine lv_topi (fun z_29 ez_29 => ?_)
                have kz_29 : (z_29).toInt = (sm).toInt * (3 : Int) := by rw [ez_29]; exact z_mul (a := (sm).toInt) (b := (3 : Int)) rfl rfl (by omega) (by omega)
                refine lv_iconst (v := 2) hx hb dX9_add_92 (by decide) ?_
                refine lv_iadd hx hb dX9_add_93 ?_
                refine lv_topi (fun z_30 ez_30 => ?_)
                have kz_30 : (z_30).toInt = (z_29).toInt + (2 : Int) := by rw [ez_30]; exact z_add (a := (z_29).toInt) (b := (2 : Int)) rfl rfl (by omega) (by omega)
                refine lv_iload hx hb dX9_add_94 (lv_at hl 4 rfl) ?_
                refine va_iast hx hb hK hP hD hS 2 1 rfl rfl (z_vpin (by omega) (by omega)) dX9_add_96 (fun H_31 locs hP hD hS => ?_)
                have hP : va_P (dC, dI) vwCl [(h0, .inr (9, [.ref h1, .ref h2, h0_2, .int sm])), (h1, .inl (ch1, 200, .inl f_21)), (h2, .inl (ch2, 600, .inl (upd f_28 (z_30 : Int32).toNatClampNeg p4)))] H_31 := hP
                have hD : va_D A [(h0, .inr (9, [.ref h1, .ref h2, h0_2, .int sm])), (h1, .inl (ch1, 200, .inl f_21)), (h2, .inl (ch2, 600, .inl (upd f_28 (z_30 : Int32).toNatClampNeg p4)))] := hD
                have hI_f_32 : ∀ j : Nat, ((0 : Int) ≤ ((upd f_28 (z_30 : Int32).toNatClampNeg p4) j).toInt ∧ ((upd f_28 (z_30 : Int32).toNatClampNeg p4) j).toInt ≤ (99 : Int)) := z_updP (P := fun v => ((0 : Int) ≤ (v).toInt ∧ (v).toInt ≤ (99 : Int))) hI_f_28 (show ((0 : Int) ≤ (p4).toInt ∧ (p4).toInt ≤ (99 : Int)) from by first | omega | decide)
                generalize (upd f_28 (z_30 : Int32).toNatClampNeg p4) = f_32 at hP hD hI_f_32
                refine lv_aload_n hx hb dX9_add_97 rfl (lv_at hl 0 rfl) ?_
                refine lv_dup hx hb dX9_add_98 rfl ?_
                refine va_get (D := (dC, dI)) (ci := 9) (v := .int sm) (C := RX9) (T := TX9) (N := 4) hx hb hts hiX9 hown hK hP 0 rfl rfl 3 (by decide) w__fieldLink_RX9_21_ShellHeap_Sizes_measured_I_ (fun _ h9 => h9) rfl dX9_add_99 ?_
                refine lv_iconst (v := 1) hx hb dX9_add_102 (by decide) ?_
                refine lv_iadd hx hb dX9_add_103 ?_
                refine lv_topi (fun z_33 ez_33 => ?_)
                have kz_33 : (z_33).toInt = (sm).toInt + (1 : Int) := by rw [ez_33]; exact z_add (a := (sm).toInt) (b := (1 : Int)) rfl rfl (by omega) (by omega)
                refine va_put (D := (dC, dI)) (ci := 9) (v := .int z_33) (ty := .int) (C := RX9) (T := TX9) (N := 4) hx hb hts hiX9 tyX9 tyX9_ok nmX9 hown hK hP hD hS 0 rfl rfl 3 (by decide) w__fieldLink_RX9_21_ShellHeap_Sizes_measured_I_ (fun _ h9 => h9) rfl (by decide +kernel) rfl rfl (Nat.le_of_ble_eq_true rfl) dX9_add_104 (fun H_34 locs hP hD hS => ?_)
                have hP : va_P (dC, dI) vwCl [(h0, .inr (9, [.ref h1, .ref h2, h0_2, .int z_33])), (h1, .inl (ch1, 200, .inl f_21)), (h2, .inl (ch2, 600, .inl f_32))] H_34 := hP
                have hD : va_D A [(h0, .inr (9, [.ref h1, .ref h2, h0_2, .int z_33])), (h1, .inl (ch1, 200, .inl f_21)), (h2, .inl (ch2, 600, .inl f_32))] := hD
                refine lv_aload_n hx hb dX9_add_107 rfl (lv_at hl 0 rfl) ?_
                refine va_get (D := (dC, dI)) (ci := 9) (v := .int z_33) (C := RX9) (T := TX9) (N := 4) hx hb hts hiX9 hown hK hP 0 rfl rfl 3 (by decide) w__fieldLink_RX9_21_ShellHeap_Sizes_measured_I_ (fun _ h9 => h9) rfl dX9_add_108 ?_
                have hP9 := hP.sub (ws' := [(h0, .inr (9, [.ref h1, .ref h2, h0_2, .int z_33])), (h1, .inl (ch1, 200, .inl f_21)), (h2, .inl (ch2, 600, .inl f_32))]) [0, 1, 2] rfl
                have hD9 := hD.sub (ws' := [(h0, .inr (9, [.ref h1, .ref h2, h0_2, .int z_33])), (h1, .inl (ch1, 200, .inl f_21)), (h2, .inl (ch2, 600, .inl f_32))]) [0, 1, 2] (by decide) rfl
                have hK9 := hK.sub (tys' := []) [] rfl
                refine W.widen (k := 0) (n := 0) (Nat.le_of_ble_eq_true rfl) (Nat.le_of_ble_eq_true rfl) ?_
                exact W.iret (v := z_33) hx hb hr (fun t ht hW => ⟨⟨z_33, (), rfl, (show z_33 = v_meA bl sm p1 p2 p3 p4 by unfold v_meA; rw [if_pos (by omega)]; first | exact ez_33 | exact z_ii (by omega)), ⟨z_33, f_21, f_32, (by first | omega | decide), hI_f_32, (show z_33 = v_meN bl sm p1 p2 p3 p4 by unfold v_meN; rw [if_pos (by omega)]; exact ez_33), by rw [ht]; exact hP9, va_K.moved hW.alike hK9, hD9⟩⟩, hS.F ht⟩) hS.2.2 dX9_add_111
              · have k_35 : (sm).toInt ≥ (200 : Int) := z_nlt c_18
                refine lv_iconst (v := (-1)) hx hb dX9_add_44 (by decide) ?_
                have hP9 := hP.sub (ws' := [(h0, .inr (9, [.ref h1, .ref h2, h0_2, .int sm])), (h1, .inl (ch1, 200, .inl fh1)), (h2, .inl (ch2, 600, .inl fh2))]) [0, 1, 2] rfl
                have hD9 := hD.sub (ws' := [(h0, .inr (9, [.ref h1, .ref h2, h0_2, .int sm])), (h1, .inl (ch1, 200, .inl fh1)), (h2, .inl (ch2, 600, .inl fh2))]) [0, 1, 2] (by decide) rfl
                have hK9 := hK.sub (tys' := []) [] rfl
                refine W.widen (k := 0) (n := 0) (Nat.le_of_ble_eq_true rfl) (Nat.le_of_ble_eq_true rfl) ?_
                exact W.iret (v := (-1)) hx hb hr (fun t ht hW => ⟨⟨(-1), (), rfl, (show (-1) = v_meA bl sm p1 p2 p3 p4 by unfold v_meA; rw [if_neg (by omega)]), ⟨sm, fh1, fh2, (by first | omega | decide), hI_h2, (show sm = v_meN bl sm p1 p2 p3 p4 by unfold v_meN; rw [if_neg (by omega)]), by rw [ht]; exact hP9, va_K.moved hW.alike hK9, hD9⟩⟩, hS.F ht⟩) hS.2.2 dX9_add_45
            · have k_36 : (p4).toInt > (99 : Int) := z_nle c_16
              refine lv_iconst (v := (-1)) hx hb dX9_add_32 (by decide) ?_
              have hP9 := hP.sub (ws' := [(h0, .inr (9, [.ref h1, .ref h2, h0_2, .int sm])), (h1, .inl (ch1, 200, .inl fh1)), (h2, .inl (ch2, 600, .inl fh2))]) [0, 1, 2] rfl
              have hD9 := hD.sub (ws' := [(h0, .inr (9, [.ref h1, .ref h2, h0_2, .int sm])), (h1, .inl (ch1, 200, .inl fh1)), (h2, .inl (ch2, 600, .inl fh2))]) [0, 1, 2] (by decide) rfl
              have hK9 := hK.sub (tys' := []) [] rfl
              refine W.widen (k := 0) (n := 0) (Nat.le_of_ble_eq_true rfl) (Nat.le_of_ble_eq_true rfl) ?_
              exact W.iret (v := (-1)) hx hb hr (fun t ht hW => ⟨⟨(-1), (), rfl, (show (-1) = v_meA bl sm p1 p2 p3 p4 by unfold v_meA; rw [if_neg (by omega)]), ⟨sm, fh1, fh2, (by first | omega | decide), hI_h2, (show sm = v_meN bl sm p1 p2 p3 p4 by unfold v_meN; rw [if_neg (by omega)]), by rw [ht]; exact hP9, va_K.moved hW.alike hK9, hD9⟩⟩, hS.F ht⟩) hS.2.2 dX9_add_33
def u_s_X11_measureA : List Cond := .code yX11_measure cX11_measure 5 (some .int) :: ([.fieldLink RX11 19 "ShellHeap" "book" "LShellHeap$Book;", .methodLink RX11 115 yX0_hasLayer, .instanceMethod yX0_hasLayer, .selects RX0 yX0_hasLayer yX0_hasLayer, .initialized RX0, .fieldLink RX11 56 "ShellHeap" "sizes" "LShellHeap$Sizes;", .methodLink RX11 263 yX9_add, .instanceMethod yX9_add, .selects RX9 yX9_add yX9_add, .initialized RX9] ++ (wsX110 ++ (u_s_X0_hasLayerA ++ (u_s_X9_addA ++ []))))
theorem gd_s_X11_measureA : z_gd u_s_X11_measureA := z_gdc (by decide +kernel) (z_gda gdX11 (z_gda gd_s_X0_hasLayerA (z_gda gd_s_X9_addA (z_gd0))))
set_option maxRecDepth 20000 in
theorem gw_s_X11_measureA_s_X0_hasLayerA_115 : GoodIn u_s_X11_measureA (wsV RX11 115 RX0 yX0_hasLayer u_s_X0_hasLayerA) := z_gV (z_gr _ [2, 3, 4, 5] rfl (by decide +kernel)) (fun w h => ⟨z_mc (z_mr (z_mr (z_ml h))), gd_s_X0_hasLayerA w h⟩)
set_option maxRecDepth 20000 in
theorem gw_s_X11_measureA_s_X9_addA_263 : GoodIn u_s_X11_measureA (wsV RX11 263 RX9 yX9_add u_s_X9_addA) := z_gV (z_gr _ [7, 8, 9, 10] rfl (by decide +kernel)) (fun w h => ⟨z_mc (z_mr (z_mr (z_mr (z_ml h)))), gd_s_X9_addA w h⟩)
set_option maxHeartbeats 4000000 in
set_option maxRecDepth 100000 in
theorem s_X11_measureA (l : Launch) (dC : Nat → ClassId) (dI : Nat → Nat → Nat) (sz : Nat) (h0 : Nat) (p1 : Int32) (p2 : Int32) (p3 : Int32) (p4 : Int32) (h0_0 : Value) (hbk : Nat) (h0_2 : Value) (h0_3 : Value) (h0_4 : Value) (h0_5 : Value) (hsz9 : Nat) (h0_7 : Value) (h0_8 : Value) (h0_9 : Value) (hbk_0 : Value) (hbk_1 : Value) (hbk_2 : Value) (hbk_3 : Value) (hbk_4 : Value) (bl : Int32) (h1 : Nat) (h2 : Nat) (hsz9_2 : Value) (sm : Int32) (ch1 : ClassId) (fh1 : Nat → Int32) (ch2 : ClassId) (fh2 : Nat → Int32) (hB_bl : ((0 : Int) ≤ (bl).toInt ∧ (bl).toInt ≤ (12 : Int))) (hB_sm : ((0 : Int) ≤ (sm).toInt ∧ (sm).toInt ≤ (200 : Int))) (hI_h2 : ∀ j : Nat, ((0 : Int) ≤ (fh2 j).toInt ∧ (fh2 j).toInt ≤ (99 : Int))) : Met l yX11_measure u_s_X11_measureA ({ frames := 1, cells := 0, slots := 0, locals := 24 }) (va_Pc [.ref h0, .int p1, .int p2, .int p3, .int p4] (z_C (dC, dI) vwCl [(h0, .inr (11, [h0_0, .ref hbk, h0_2, h0_3, h0_4, h0_5, .ref hsz9, h0_7, h0_8, h0_9])), (hbk, .inr (0, [hbk_0, hbk_1, hbk_2, hbk_3, hbk_4, .int bl])), (hsz9, .inr (9, [.ref h1, .ref h2, hsz9_2, .int sm])), (h1, .inl (ch1, 200, .inl fh1)), (h2, .inl (ch2, 600, .inl fh2))] [(ch1, .int), (ch2, .int)] sz)) (va_Qi (fun (r : Int32) (_ : Unit) => r = v_meA bl sm p1 p2 p3 p4) (fun (_ : Unit) (t : State) => ∃ (n_hsz9_measured : Int32), ∃ (g_h1 : Nat → Int32), ∃ (g_h2 : Nat → Int32), ((0 : Int) ≤ (n_hsz9_measured).toInt ∧ (n_hsz9_measured).toInt ≤ (200 : Int)) ∧ (∀ j : Nat, ((0 : Int) ≤ (g_h2 j).toInt ∧ (g_h2 j).toInt ≤ (99 : Int))) ∧ (n_hsz9_measured = v_meN bl sm p1 p2 p3 p4) ∧ va_P (dC, dI) vwCl [(h0, .inr (11, [h0_0, .ref hbk, h0_2, h0_3, h0_4, h0_5, .ref hsz9, h0_7, h0_8, h0_9])), (hbk, .inr (0, [hbk_0, hbk_1, hbk_2, hbk_3, hbk_4, .int bl])), (hsz9, .inr (9, [.ref h1, .ref h2, hsz9_2, .int n_hsz9_measured])), (h1, .inl (ch1, 200, .inl g_h1)), (h2, .inl (ch2, 600, .inl g_h2))] t.heap ∧ va_K (dC, dI) vwCl [] t ∧ va_D (va_A [(h0, .inr (11, [h0_0, .ref hbk, h0_2, h0_3, h0_4, h0_5, .ref hsz9, h0_7, h0_8, h0_9])), (hbk, .inr (0, [hbk_0, hbk_1, hbk_2, hbk_3, hbk_4, .int bl])), (hsz9, .inr (9, [.ref h1, .ref h2, hsz9_2, .int sm])), (h1, .inl (ch1, 200, .inl fh1)), (h2, .inl (ch2, 600, .inl fh2))] sz) [(h0, .inr (11, [h0_0, .ref hbk, h0_2, h0_3, h0_4, h0_5, .ref hsz9, h0_7, h0_8, h0_9])), (hbk, .inr (0, [hbk_0, hbk_1, hbk_2, hbk_3, hbk_4, .int bl])), (hsz9, .inr (9, [.ref h1, .ref h2, hsz9_2, .int n_hsz9_measured])), (h1, .inl (ch1, 200, .inl g_h1)), (h2, .inl (ch2, 600, .inl g_h2))]) (va_A [(h0, .inr (11, [h0_0, .ref hbk, h0_2, h0_3, h0_4, h0_5, .ref hsz9, h0_7, h0_8, h0_9])), (hbk, .inr (0, [hbk_0, hbk_1, hbk_2, hbk_3, hbk_4, .int bl])), (hsz9, .inr (9, [.ref h1, .ref h2, hsz9_2, .int sm])), (h1, .inl (ch1, 200, .inl fh1)), (h2, .inl (ch2, 600, .inl fh2))] sz)) 0 0 (va_A [(h0, .inr (11, [h0_0, .ref hbk, h0_2, h0_3, h0_4, h0_5, .ref hsz9, h0_7, h0_8, h0_9])), (hbk, .inr (0, [hbk_0, hbk_1, hbk_2, hbk_3, hbk_4, .int bl])), (hsz9, .inr (9, [.ref h1, .ref h2, hsz9_2, .int sm])), (h1, .inl (ch1, 200, .inl fh1)), (h2, .inl (ch2, 600, .inl fh2))] sz) := by
  refine Met.ofW (cc := cX11_measure) (maxL := 5) (ret := (some .int)) (by decide) rfl ?_
  intro p e s m args below meth c s₁ B hml hv
  obtain ⟨rfl, hsz, hP, hK, hD0⟩ := hv
  have hx := B.exec
  have hb := B.bytes
  have hr := B.returns
  have hts := atoms_spec (ws := u_s_X11_measureA) B.pre
  have hown : s.vm.findClass RX11 = some m.cls := findClass_of_methodNamed B.named
  have hlocks := B.notSynchronized
  subst hsz
  have hD := hD0.self (sz := s.heap.size)
  generalize hAe : va_A [(h0, .inr (11, [h0_0, .ref hbk, h0_2, h0_3, h0_4, h0_5, .ref hsz9, h0_7, h0_8, h0_9])), (hbk, .inr (0, [hbk_0, hbk_1, hbk_2, hbk_3, hbk_4, .int bl])), (hsz9, .inr (9, [.ref h1, .ref h2, hsz9_2, .int sm])), (h1, .inl (ch1, 200, .inl fh1)), (h2, .inl (ch2, 600, .inl fh2))] s.heap.size = A at hD ⊢
  have hA : ∀ q : Nat, s.heap.size ≤ q → A q := fun q h => by rw [← hAe]; exact Or.inr h
  have hS : va_S A s.heap s.heap [] := va_S.rf
  have hP : va_P (dC, dI) vwCl [(h0, .inr (11, [h0_0, .ref hbk, h0_2, h0_3, h0_4, h0_5, .ref hsz9, h0_7, h0_8, h0_9])), (hbk, .inr (0, [hbk_0, hbk_1, hbk_2, hbk_3, hbk_4, .int bl])), (hsz9, .inr (9, [.ref h1, .ref h2, hsz9_2, .int sm])), (h1, .inl (ch1, 200, .inl fh1)), (h2, .inl (ch2, 600, .inl fh2))] s.heap := hP
  have w__fieldLink_RX11_19_ShellHeap_book_LShellHeap_Book_ := hts (.fieldLink RX11 19 "ShellHeap" "book" "LShellHeap$Book;") (by decide +kernel)
  have hiX11 := show ∀ w ∈ u_ws RX11 TX11 10, w ∈ u_s_X11_measureA from fun w h => z_mc (z_mr (z_ml h))
  have w__fieldLink_RX11_56_ShellHeap_sizes_LShellHeap_Sizes_ := hts (.fieldLink RX11 56 "ShellHeap" "sizes" "LShellHeap$Sizes;") (by decide +kernel)
  have krr_p1 := z_rng p1
  have krr_p2 := z_rng p2
  have krr_p3 := z_rng p3
  have krr_p4 := z_rng p4
  have hl := lv_entry ([.ref h0, .int p1, .int p2, .int p3, .int p4]) (n := 5) (Nat.le_of_ble_eq_true rfl)
  rw [lg_entry_eq]
  generalize (lg_sl ([.ref h0, .int p1, .int p2, .int p3, .int p4]) ++ List.replicate (5 - (lg_sl ([.ref h0, .int p1, .int p2, .int p3, .int p4])).length) Slot.unset).toArray = ls at hl ⊢
  have hl : lv_has ls 5 [(0, .ref h0), (1, .int p1), (2, .int p2), (3, .int p3), (4, .int p4)] := hl
  refine lv_aload_n hx hb dX11_measure_0 rfl (lv_at hl 0 rfl) ?_
  refine va_get (D := (dC, dI)) (ci := 11) (v := .ref hbk) (C := RX11) (T := TX11) (N := 10) hx hb hts hiX11 hown hK hP 0 rfl rfl 1 (by decide) w__fieldLink_RX11_19_ShellHeap_book_LShellHeap_Book_ (fun _ h9 => h9) rfl dX11_measure_1 ?_
  refine lv_iload_n hx hb dX11_measure_4 rfl (lv_at hl 1 rfl) ?_
  have hPc := hP.sub (ws' := [(hbk, .inr (0, [hbk_0, hbk_1, hbk_2, hbk_3, hbk_4, .int bl]))]) [1] rfl
  have hDc := hD.sub (ws' := [(hbk, .inr (0, [hbk_0, hbk_1, hbk_2, hbk_3, hbk_4, .int bl]))]) [1] (by decide) rfl
  have hKc := hK.sub (tys' := []) [] rfl
  have hFc := va_free (ws := []) (wc := []) (z_D0 _) hS hA [] rfl
  refine va_calli (va_runV (As := [.int p1]) (rest := []) ⟨hx, hb, hml, hown, hts⟩ (s_X0_hasLayerA l dC dI s.heap.size hbk p1 hbk_0 hbk_1 hbk_2 hbk_3 hbk_4 bl (by first | omega | decide)) (cwV 1 hts gw_s_X11_measureA_s_X0_hasLayerA_115 rfl rfl rfl (by decide +kernel) ⟨Nat.le_of_ble_eq_true rfl, Nat.le_of_ble_eq_true rfl⟩) ⟨z_blind, va_recv hKc hPc (ci := 0) (q0 := 0) rfl rfl, z_pre hPc hKc hDc⟩ rfl rfl hl.1 rfl (lv_room (Nat.le_of_ble_eq_true rfl)) dX11_measure_5 ⟨Nat.le_of_ble_eq_true rfl, Nat.le_of_ble_eq_true rfl⟩) hS (fun q _ h => hFc q h) hFc (fun r_2 u t H_1 locs ht hvm hw_3 hB hz1 hk1 hS => ?_)
  have hP := z_pure hP hk1
  have hP : va_P (dC, dI) vwCl [(h0, .inr (11, [h0_0, .ref hbk, h0_2, h0_3, h0_4, h0_5, .ref hsz9, h0_7, h0_8, h0_9])), (hbk, .inr (0, [hbk_0, hbk_1, hbk_2, hbk_3, hbk_4, .int bl])), (hsz9, .inr (9, [.ref h1, .ref h2, hsz9_2, .int sm])), (h1, .inl (ch1, 200, .inl fh1)), (h2, .inl (ch2, 600, .inl fh2))] H_1 := hP
  have hD : va_D A [(h0, .inr (11, [h0_0, .ref hbk, h0_2, h0_3, h0_4, h0_5, .ref hsz9, h0_7, h0_8, h0_9])), (hbk, .inr (0, [hbk_0, hbk_1, hbk_2, hbk_3, hbk_4, .int bl])), (hsz9, .inr (9, [.ref h1, .ref h2, hsz9_2, .int sm])), (h1, .inl (ch1, 200, .inl fh1)), (h2, .inl (ch2, 600, .inl fh2))] := hD
  clear hPc hDc hKc
  rcases hw_3 with ⟨rfl, hw_3⟩ | ⟨rfl, hw_3⟩
  · have hw_3 : (0 ≤ p1.toInt ∧ p1.toInt < bl.toInt) := hw_3
    refine lv_if_eq (tgt := 26) hx hb dX11_measure_8 (by decide) (fun c_4 => absurd c_4 (by decide)) (fun _ => ?_)
    refine lv_aload_n hx hb dX11_measure_11 rfl (lv_at hl 0 rfl) ?_
    refine va_get (D := (dC, dI)) (ci := 11) (v := .ref hsz9) (C := RX11) (T := TX11) (N := 10) hx hb hts hiX11 hown hK hP 0 rfl rfl 6 (by decide) w__fieldLink_RX11_56_ShellHeap_sizes_LShellHeap_Sizes_ (fun _ h9 => h9) rfl dX11_measure_12 ?_
    refine lv_iload_n hx hb dX11_measure_15 rfl (lv_at hl 1 rfl) ?_
    refine lv_iload_n hx hb dX11_measure_16 rfl (lv_at hl 2 rfl) ?_
    refine lv_iload_n hx hb dX11_measure_17 rfl (lv_at hl 3 rfl) ?_
    refine lv_iload hx hb dX11_measure_18 (lv_at hl 4 rfl) ?_
    have hPc := hP.sub (ws' := [(hsz9, .inr (9, [.ref h1, .ref h2, hsz9_2, .int sm])), (h1, .inl (ch1, 200, .inl fh1)), (h2, .inl (ch2, 600, .inl fh2))]) [2, 3, 4] rfl
    have hDc := hD.sub (ws' := [(hsz9, .inr (9, [.ref h1, .ref h2, hsz9_2, .int sm])), (h1, .inl (ch1, 200, .inl fh1)), (h2, .inl (ch2, 600, .inl fh2))]) [2, 3, 4] (by decide) rfl
    have hKc := hK.sub (tys' := [(ch1, .int), (ch2, .int)]) [0, 1] rfl
    have hFc := va_free (wc := [(hsz9, .inr (9, [.ref h1, .ref h2, hsz9_2, .int sm])), (h1, .inl (ch1, 200, .inl fh1)), (h2, .inl (ch2, 600, .inl fh2))]) hD hS hA [2, 3, 4] rfl
    refine va_calli (va_runV (As := [.int p1, .int p2, .int p3, .int p4]) (rest := []) ⟨hx, hb, hml, hown, hts⟩ (s_X9_addA l dC dI H_1.size hsz9 p1 p2 p3 p4 h1 h2 hsz9_2 sm ch1 fh1 ch2 fh2 bl (by first | omega | decide) hI_h2 (by first | omega | decide)) (cwV 4 hts gw_s_X11_measureA_s_X9_addA_263 rfl rfl rfl (by decide +kernel) ⟨Nat.le_of_ble_eq_true rfl, Nat.le_of_ble_eq_true rfl⟩) ⟨z_blind, va_recv hKc hPc (ci := 9) (q0 := 0) rfl rfl, z_pre hPc hKc hDc⟩ rfl rfl hl.1 rfl (lv_room (Nat.le_of_ble_eq_true rfl)) dX11_measure_20 ⟨Nat.le_of_ble_eq_true rfl, Nat.le_of_ble_eq_true rfl⟩) hS (fun q _ h => hFc q h) hFc (fun r_6 u t H_5 locs ht hvm hw_7 hB hz1 hk1 hS => ?_)
    obtain ⟨n_h0_measured_8, g_h1_9, g_h2_10, hp_11, hp_12, hp_13, hP1, hK1, hD1⟩ := hB
    rw [ht] at hP1
    have hK1 := va_K.moved hvm.symm hK1
    obtain ⟨hP, hD⟩ := va_join (wr := [(h0, .inr (11, [h0_0, .ref hbk, h0_2, h0_3, h0_4, h0_5, .ref hsz9, h0_7, h0_8, h0_9])), (hbk, .inr (0, [hbk_0, hbk_1, hbk_2, hbk_3, hbk_4, .int bl]))]) (w1 := [(hsz9, .inr (9, [.ref h1, .ref h2, hsz9_2, .int n_h0_measured_8])), (h1, .inl (ch1, 200, .inl g_h1_9)), (h2, .inl (ch2, 600, .inl g_h2_10))]) hP hD [2, 3, 4] [0, 1] rfl rfl (by decide) (by decide) hk1 hFc hP1 hD1
    have hp_13 : n_h0_measured_8 = v_meN bl sm p1 p2 p3 p4 := hp_13
    have hP : va_P (dC, dI) vwCl [(h0, .inr (11, [h0_0, .ref hbk, h0_2, h0_3, h0_4, h0_5, .ref hsz9, h0_7, h0_8, h0_9])), (hbk, .inr (0, [hbk_0, hbk_1, hbk_2, hbk_3, hbk_4, .int bl])), (hsz9, .inr (9, [.ref h1, .ref h2, hsz9_2, .int n_h0_measured_8])), (h1, .inl (ch1, 200, .inl g_h1_9)), (h2, .inl (ch2, 600, .inl g_h2_10))] H_5 := hP
    have hD : va_D A [(h0, .inr (11, [h0_0, .ref hbk, h0_2, h0_3, h0_4, h0_5, .ref hsz9, h0_7, h0_8, h0_9])), (hbk, .inr (0, [hbk_0, hbk_1, hbk_2, hbk_3, hbk_4, .int bl])), (hsz9, .inr (9, [.ref h1, .ref h2, hsz9_2, .int n_h0_measured_8])), (h1, .inl (ch1, 200, .inl g_h1_9)), (h2, .inl (ch2, 600, .inl g_h2_10))] := hD
    clear hPc hDc hKc
    refine lv_goto (tgt := 27) hx hb dX11_measure_23 (by decide) ?_
    have hP9 := hP.sub (ws' := [(h0, .inr (11, [h0_0, .ref hbk, h0_2, h0_3, h0_4, h0_5, .ref hsz9, h0_7, h0_8, h0_9])), (hbk, .inr (0, [hbk_0, hbk_1, hbk_2, hbk_3, hbk_4, .int bl])), (hsz9, .inr (9, [.ref h1, .ref h2, hsz9_2, .int n_h0_measured_8])), (h1, .inl (ch1, 200, .inl g_h1_9)), (h2, .inl (ch2, 600, .inl g_h2_10))]) [0, 1, 2, 3, 4] rfl
    have hD9 := hD.sub (ws' := [(h0, .inr (11, [h0_0, .ref hbk, h0_2, h0_3, h0_4, h0_5, .ref hsz9, h0_7, h0_8, h0_9])), (hbk, .inr (0, [hbk_0, hbk_1, hbk_2, hbk_3, hbk_4, .int bl])), (hsz9, .inr (9, [.ref h1, .ref h2, hsz9_2, .int n_h0_measured_8])), (h1, .inl (ch1, 200, .inl g_h1_9)), (h2, .inl (ch2, 600, .inl g_h2_10))]) [0, 1, 2, 3, 4] (by decide) rfl
    have hK9 := hK.sub (tys' := []) [] rfl
    refine W.widen (k := 0) (n := 0) (Nat.le_of_ble_eq_true rfl) (Nat.le_of_ble_eq_true rfl) ?_
    exact W.iret (v := r_6) hx hb hr (fun t ht hW => ⟨⟨r_6, (), rfl, (show r_6 = v_meA bl sm p1 p2 p3 p4 from hw_7), ⟨n_h0_measured_8, g_h1_9, g_h2_10, (by first | omega | decide), hp_12, hp_13, by rw [ht]; exact hP9, va_K.moved hW.alike hK9, hD9⟩⟩, hS.F ht⟩) hS.2.2 dX11_measure_27
  · have hw_3 : ¬ (0 ≤ p1.toInt ∧ p1.toInt < bl.toInt) := hw_3
    refine lv_if_eq (tgt := 26) hx hb dX11_measure_8 (by decide) (fun _ => ?_) (fun c_14 => absurd (by decide) c_14)
    refine lv_iconst (v := (-1)) hx hb dX11_measure_26 (by decide) ?_
    have hP9 := hP.sub (ws' := [(h0, .inr (11, [h0_0, .ref hbk, h0_2, h0_3, h0_4, h0_5, .ref hsz9, h0_7, h0_8, h0_9])), (hbk, .inr (0, [hbk_0, hbk_1, hbk_2, hbk_3, hbk_4, .int bl])), (hsz9, .inr (9, [.ref h1, .ref h2, hsz9_2, .int sm])), (h1, .inl (ch1, 200, .inl fh1)), (h2, .inl (ch2, 600, .inl fh2))]) [0, 1, 2, 3, 4] rfl
    have hD9 := hD.sub (ws' := [(h0, .inr (11, [h0_0, .ref hbk, h0_2, h0_3, h0_4, h0_5, .ref hsz9, h0_7, h0_8, h0_9])), (hbk, .inr (0, [hbk_0, hbk_1, hbk_2, hbk_3, hbk_4, .int bl])), (hsz9, .inr (9, [.ref h1, .ref h2, hsz9_2, .int sm])), (h1, .inl (ch1, 200, .inl fh1)), (h2, .inl (ch2, 600, .inl fh2))]) [0, 1, 2, 3, 4] (by decide) rfl
    have hK9 := hK.sub (tys' := []) [] rfl
    refine W.widen (k := 0) (n := 0) (Nat.le_of_ble_eq_true rfl) (Nat.le_of_ble_eq_true rfl) ?_
    exact W.iret (v := (-1)) hx hb hr (fun t ht hW => ⟨⟨(-1), (), rfl, (show (-1) = v_meA bl sm p1 p2 p3 p4 by unfold v_meA; rw [if_neg (by omega)]), ⟨sm, fh1, fh2, (by first | omega | decide), hI_h2, (show sm = v_meN bl sm p1 p2 p3 p4 by unfold v_meN; rw [if_neg (by omega)]), by rw [ht]; exact hP9, va_K.moved hW.alike hK9, hD9⟩⟩, hS.F ht⟩) hS.2.2 dX11_measure_27
def u_s_X12_measureA : List Cond := .code yX12_measure cX12_measure 5 (some .int) :: ([.fieldLink RX12 145 "ShellHeapModel" "thrown" "I", .methodLink RX12 157 yX12_isLayer, .instanceMethod yX12_isLayer, .selects RX12 yX12_isLayer yX12_isLayer, .initialized RX12, .fieldLink RX12 311 "ShellHeapModel" "shells" "I", .fieldLink RX12 90 "ShellHeapModel" "shellOf" "[I", .fieldLink RX12 93 "ShellHeapModel" "shell" "[I"] ++ (wsX120 ++ (u_s_X12_isLayerA ++ [])))
theorem gd_s_X12_measureA : z_gd u_s_X12_measureA := z_gdc (by decide +kernel) (z_gda gdX12 (z_gda gd_s_X12_isLayerA (z_gd0)))
set_option maxRecDepth 20000 in
theorem gw_s_X12_measureA_s_X12_isLayerA_157 : GoodIn u_s_X12_measureA (wsV RX12 157 RX12 yX12_isLayer u_s_X12_isLayerA) := z_gV (z_gr _ [2, 3, 4, 5] rfl (by decide +kernel)) (fun w h => ⟨z_mc (z_mr (z_mr (z_ml h))), gd_s_X12_isLayerA w h⟩)
set_option maxHeartbeats 4000000 in
set_option maxRecDepth 100000 in
theorem s_X12_measureA (l : Launch) (dC : Nat → ClassId) (dI : Nat → Nat → Nat) (sz : Nat) (h0 : Nat) (p1 : Int32) (p2 : Int32) (p3 : Int32) (p4 : Int32) (h0_0 : Value) (h0_1 : Value) (mx : Int32) (ml : Int32) (h0_4 : Value) (h0_5 : Value) (h0_6 : Value) (h0_7 : Value) (h0_8 : Value) (h0_9 : Value) (h0_10 : Value) (h0_11 : Value) (h0_12 : Value) (h0_13 : Value) (h0_14 : Value) (h0_15 : Value) (h0_16 : Value) (h0_17 : Value) (h0_18 : Value) (h0_19 : Value) (h0_20 : Value) (h0_21 : Value) (h0_22 : Value) (h0_23 : Value) (h0_24 : Value) (h0_25 : Value) (h0_26 : Value) (h0_27 : Value) (h0_28 : Value) (h0_29 : Value) (h0_30 : Value) (h0_31 : Value) (h0_32 : Value) (h0_33 : Value) (h0_34 : Value) (h0_35 : Value) (h0_36 : Value) (h0_37 : Value) (h0_38 : Value) (h0_39 : Value) (ms : Int32) (h1 : Nat) (h2 : Nat) (h0_43 : Value) (h0_44 : Value) (h0_45 : Value) (h0_46 : Value) (h0_47 : Value) (h0_48 : Value) (h0_49 : Value) (h0_50 : Value) (h0_51 : Value) (h0_52 : Value) (h0_53 : Value) (h0_54 : Value) (h0_55 : Value) (h0_56 : Value) (h0_57 : Value) (h0_58 : Value) (h0_59 : Value) (h0_60 : Value) (h0_61 : Value) (h0_62 : Value) (h0_63 : Value) (h0_64 : Value) (h0_65 : Value) (h0_66 : Value) (h0_67 : Value) (h0_68 : Value) (h0_69 : Value) (ch1 : ClassId) (fh1 : Nat → Int32) (ch2 : ClassId) (fh2 : Nat → Int32) (hB_ml : ((0 : Int) ≤ (ml).toInt ∧ (ml).toInt ≤ (12 : Int))) (hB_ms : ((0 : Int) ≤ (ms).toInt ∧ (ms).toInt ≤ (200 : Int))) (hI_h1 : ∀ j : Nat, ((0 : Int) ≤ (fh1 j).toInt ∧ (fh1 j).toInt ≤ (11 : Int))) : Met l yX12_measure u_s_X12_measureA ({ frames := 1, cells := 0, slots := 0, locals := 21 }) (va_Pc [.ref h0, .int p1, .int p2, .int p3, .int p4] (z_C (dC, dI) vwCl [(h0, .inr (12, [h0_0, h0_1, .int mx, .int ml, h0_4, h0_5, h0_6, h0_7, h0_8, h0_9, h0_10, h0_11, h0_12, h0_13, h0_14, h0_15, h0_16, h0_17, h0_18, h0_19, h0_20, h0_21, h0_22, h0_23, h0_24, h0_25, h0_26, h0_27, h0_28, h0_29, h0_30, h0_31, h0_32, h0_33, h0_34, h0_35, h0_36, h0_37, h0_38, h0_39, .int ms, .ref h1, .ref h2, h0_43, h0_44, h0_45, h0_46, h0_47, h0_48, h0_49, h0_50, h0_51, h0_52, h0_53, h0_54, h0_55, h0_56, h0_57, h0_58, h0_59, h0_60, h0_61, h0_62, h0_63, h0_64, h0_65, h0_66, h0_67, h0_68, h0_69])), (h1, .inl (ch1, 200, .inl fh1)), (h2, .inl (ch2, 600, .inl fh2))] [(ch1, .int), (ch2, .int)] sz)) (va_Qi (fun (r : Int32) (_ : Unit) => r = v_meA ml ms p1 p2 p3 p4) (fun (_ : Unit) (t : State) => ∃ (n_h0_thrown : Int32), ∃ (n_h0_shells : Int32), ∃ (g_h1 : Nat → Int32), ∃ (g_h2 : Nat → Int32), ((0 : Int) ≤ (n_h0_shells).toInt ∧ (n_h0_shells).toInt ≤ (200 : Int)) ∧ (∀ j : Nat, ((0 : Int) ≤ (g_h1 j).toInt ∧ (g_h1 j).toInt ≤ (11 : Int))) ∧ (n_h0_shells = v_meN ml ms p1 p2 p3 p4) ∧ va_P (dC, dI) vwCl [(h0, .inr (12, [h0_0, h0_1, .int n_h0_thrown, .int ml, h0_4, h0_5, h0_6, h0_7, h0_8, h0_9, h0_10, h0_11, h0_12, h0_13, h0_14, h0_15, h0_16, h0_17, h0_18, h0_19, h0_20, h0_21, h0_22, h0_23, h0_24, h0_25, h0_26, h0_27, h0_28, h0_29, h0_30, h0_31, h0_32, h0_33, h0_34, h0_35, h0_36, h0_37, h0_38, h0_39, .int n_h0_shells, .ref h1, .ref h2, h0_43, h0_44, h0_45, h0_46, h0_47, h0_48, h0_49, h0_50, h0_51, h0_52, h0_53, h0_54, h0_55, h0_56, h0_57, h0_58, h0_59, h0_60, h0_61, h0_62, h0_63, h0_64, h0_65, h0_66, h0_67, h0_68, h0_69])), (h1, .inl (ch1, 200, .inl g_h1)), (h2, .inl (ch2, 600, .inl g_h2))] t.heap ∧ va_K (dC, dI) vwCl [] t ∧ va_D (va_A [(h0, .inr (12, [h0_0, h0_1, .int mx, .int ml, h0_4, h0_5, h0_6, h0_7, h0_8, h0_9, h0_10, h0_11, h0_12, h0_13, h0_14, h0_15, h0_16, h0_17, h0_18, h0_19, h0_20, h0_21, h0_22, h0_23, h0_24, h0_25, h0_26, h0_27, h0_28, h0_29, h0_30, h0_31, h0_32, h0_33, h0_34, h0_35, h0_36, h0_37, h0_38, h0_39, .int ms, .ref h1, .ref h2, h0_43, h0_44, h0_45, h0_46, h0_47, h0_48, h0_49, h0_50, h0_51, h0_52, h0_53, h0_54, h0_55, h0_56, h0_57, h0_58, h0_59, h0_60, h0_61, h0_62, h0_63, h0_64, h0_65, h0_66, h0_67, h0_68, h0_69])), (h1, .inl (ch1, 200, .inl fh1)), (h2, .inl (ch2, 600, .inl fh2))] sz) [(h0, .inr (12, [h0_0, h0_1, .int n_h0_thrown, .int ml, h0_4, h0_5, h0_6, h0_7, h0_8, h0_9, h0_10, h0_11, h0_12, h0_13, h0_14, h0_15, h0_16, h0_17, h0_18, h0_19, h0_20, h0_21, h0_22, h0_23, h0_24, h0_25, h0_26, h0_27, h0_28, h0_29, h0_30, h0_31, h0_32, h0_33, h0_34, h0_35, h0_36, h0_37, h0_38, h0_39, .int n_h0_shells, .ref h1, .ref h2, h0_43, h0_44, h0_45, h0_46, h0_47, h0_48, h0_49, h0_50, h0_51, h0_52, h0_53, h0_54, h0_55, h0_56, h0_57, h0_58, h0_59, h0_60, h0_61, h0_62, h0_63, h0_64, h0_65, h0_66, h0_67, h0_68, h0_69])), (h1, .inl (ch1, 200, .inl g_h1)), (h2, .inl (ch2, 600, .inl g_h2))]) (va_A [(h0, .inr (12, [h0_0, h0_1, .int mx, .int ml, h0_4, h0_5, h0_6, h0_7, h0_8, h0_9, h0_10, h0_11, h0_12, h0_13, h0_14, h0_15, h0_16, h0_17, h0_18, h0_19, h0_20, h0_21, h0_22, h0_23, h0_24, h0_25, h0_26, h0_27, h0_28, h0_29, h0_30, h0_31, h0_32, h0_33, h0_34, h0_35, h0_36, h0_37, h0_38, h0_39, .int ms, .ref h1, .ref h2, h0_43, h0_44, h0_45, h0_46, h0_47, h0_48, h0_49, h0_50, h0_51, h0_52, h0_53, h0_54, h0_55, h0_56, h0_57, h0_58, h0_59, h0_60, h0_61, h0_62, h0_63, h0_64, h0_65, h0_66, h0_67, h0_68, h0_69])), (h1, .inl (ch1, 200, .inl fh1)), (h2, .inl (ch2, 600, .inl fh2))] sz)) 0 0 (va_A [(h0, .inr (12, [h0_0, h0_1, .int mx, .int ml, h0_4, h0_5, h0_6, h0_7, h0_8, h0_9, h0_10, h0_11, h0_12, h0_13, h0_14, h0_15, h0_16, h0_17, h0_18, h0_19, h0_20, h0_21, h0_22, h0_23, h0_24, h0_25, h0_26, h0_27, h0_28, h0_29, h0_30, h0_31, h0_32, h0_33, h0_34, h0_35, h0_36, h0_37, h0_38, h0_39, .int ms, .ref h1, .ref h2, h0_43, h0_44, h0_45, h0_46, h0_47, h0_48, h0_49, h0_50, h0_51, h0_52, h0_53, h0_54, h0_55, h0_56, h0_57, h0_58, h0_59, h0_60, h0_61, h0_62, h0_63, h0_64, h0_65, h0_66, h0_67, h0_68, h0_69])), (h1, .inl (ch1, 200, .inl fh1)), (h2, .inl (ch2, 600, .inl fh2))] sz) := by
  refine Met.ofW (cc := cX12_measure) (maxL := 5) (ret := (some .int)) (by decide) rfl ?_
  intro p e s m args below meth c s₁ B hml hv
  obtain ⟨rfl, hsz, hP, hK, hD0⟩ := hv
  have hx := B.exec
  have hb := B.bytes
  have hr := B.returns
  have hts := atoms_spec (ws := u_s_X12_measureA) B.pre
  have hown : s.vm.findClass RX12 = some m.cls := findClass_of_methodNamed B.named
  have hlocks := B.notSynchronized
  subst hsz
  have hD := hD0.self (sz := s.heap.size)
  generalize hAe : va_A [(h0, .inr (12, [h0_0, h0_1, .int mx, .int ml, h0_4, h0_5, h0_6, h0_7, h0_8, h0_9, h0_10, h0_11, h0_12, h0_13, h0_14, h0_15, h0_16, h0_17, h0_18, h0_19, h0_20, h0_21, h0_22, h0_23, h0_24, h0_25, h0_26, h0_27, h0_28, h0_29, h0_30, h0_31, h0_32, h0_33, h0_34, h0_35, h0_36, h0_37, h0_38, h0_39, .int ms, .ref h1, .ref h2, h0_43, h0_44, h0_45, h0_46, h0_47, h0_48, h0_49, h0_50, h0_51, h0_52, h0_53, h0_54, h0_55, h0_56, h0_57, h0_58, h0_59, h0_60, h0_61, h0_62, h0_63, h0_64, h0_65, h0_66, h0_67, h0_68, h0_69])), (h1, .inl (ch1, 200, .inl fh1)), (h2, .inl (ch2, 600, .inl fh2))] s.heap.size = A at hD ⊢
  have hA : ∀ q : Nat, s.heap.size ≤ q → A q := fun q h => by rw [← hAe]; exact Or.inr h
  have hS : va_S A s.heap s.heap [] := va_S.rf
  have hP : va_P (dC, dI) vwCl [(h0, .inr (12, [h0_0, h0_1, .int mx, .int ml, h0_4, h0_5, h0_6, h0_7, h0_8, h0_9, h0_10, h0_11, h0_12, h0_13, h0_14, h0_15, h0_16, h0_17, h0_18, h0_19, h0_20, h0_21, h0_22, h0_23, h0_24, h0_25, h0_26, h0_27, h0_28, h0_29, h0_30, h0_31, h0_32, h0_33, h0_34, h0_35, h0_36, h0_37, h0_38, h0_39, .int ms, .ref h1, .ref h2, h0_43, h0_44, h0_45, h0_46, h0_47, h0_48, h0_49, h0_50, h0_51, h0_52, h0_53, h0_54, h0_55, h0_56, h0_57, h0_58, h0_59, h0_60, h0_61, h0_62, h0_63, h0_64, h0_65, h0_66, h0_67, h0_68, h0_69])), (h1, .inl (ch1, 200, .inl fh1)), (h2, .inl (ch2, 600, .inl fh2))] s.heap := hP
  have w__fieldLink_RX12_145_ShellHeapModel_thrown_I_ := hts (.fieldLink RX12 145 "ShellHeapModel" "thrown" "I") (by decide +kernel)
  have hiX12 := show ∀ w ∈ u_ws RX12 TX12 70, w ∈ u_s_X12_measureA from fun w h => z_mc (z_mr (z_ml h))
  have w__fieldLink_RX12_311_ShellHeapModel_shells_I_ := hts (.fieldLink RX12 311 "ShellHeapModel" "shells" "I") (by decide +kernel)
  have w__fieldLink_RX12_90_ShellHeapModel_shellOf_I_ := hts (.fieldLink RX12 90 "ShellHeapModel" "shellOf" "[I") (by decide +kernel)
  have w__fieldLink_RX12_93_ShellHeapModel_shell_I_ := hts (.fieldLink RX12 93 "ShellHeapModel" "shell" "[I") (by decide +kernel)
  have krr_p1 := z_rng p1
  have krr_p2 := z_rng p2
  have krr_p3 := z_rng p3
  have krr_p4 := z_rng p4
  have hl := lv_entry ([.ref h0, .int p1, .int p2, .int p3, .int p4]) (n := 5) (Nat.le_of_ble_eq_true rfl)
  rw [lg_entry_eq]
  generalize (lg_sl ([.ref h0, .int p1, .int p2, .int p3, .int p4]) ++ List.replicate (5 - (lg_sl ([.ref h0, .int p1, .int p2, .int p3, .int p4])).length) Slot.unset).toArray = ls at hl ⊢
  have hl : lv_has ls 5 [(0, .ref h0), (1, .int p1), (2, .int p2), (3, .int p3), (4, .int p4)] := hl
  refine lv_aload_n hx hb dX12_measure_0 rfl (lv_at hl 0 rfl) ?_
  refine lv_iconst (v := 0) hx hb dX12_measure_1 (by decide) ?_
  refine va_put (D := (dC, dI)) (ci := 12) (v := .int 0) (ty := .int) (C := RX12) (T := TX12) (N := 70) hx hb hts hiX12 tyX12 tyX12_ok nmX12 hown hK hP hD hS 0 rfl rfl 2 (by decide) w__fieldLink_RX12_145_ShellHeapModel_thrown_I_ (fun _ h9 => h9) rfl (by decide +kernel) rfl rfl (Nat.le_of_ble_eq_true rfl) dX12_measure_2 (fun H_1 locs hP hD hS => ?_)
  have hP : va_P (dC, dI) vwCl [(h0, .inr (12, [h0_0, h0_1, .int 0, .int ml, h0_4, h0_5, h0_6, h0_7, h0_8, h0_9, h0_10, h0_11, h0_12, h0_13, h0_14, h0_15, h0_16, h0_17, h0_18, h0_19, h0_20, h0_21, h0_22, h0_23, h0_24, h0_25, h0_26, h0_27, h0_28, h0_29, h0_30, h0_31, h0_32, h0_33, h0_34, h0_35, h0_36, h0_37, h0_38, h0_39, .int ms, .ref h1, .ref h2, h0_43, h0_44, h0_45, h0_46, h0_47, h0_48, h0_49, h0_50, h0_51, h0_52, h0_53, h0_54, h0_55, h0_56, h0_57, h0_58, h0_59, h0_60, h0_61, h0_62, h0_63, h0_64, h0_65, h0_66, h0_67, h0_68, h0_69])), (h1, .inl (ch1, 200, .inl fh1)), (h2, .inl (ch2, 600, .inl fh2))] H_1 := hP
  have hD : va_D A [(h0, .inr (12, [h0_0, h0_1, .int 0, .int ml, h0_4, h0_5, h0_6, h0_7, h0_8, h0_9, h0_10, h0_11, h0_12, h0_13, h0_14, h0_15, h0_16, h0_17, h0_18, h0_19, h0_20, h0_21, h0_22, h0_23, h0_24, h0_25, h0_26, h0_27, h0_28, h0_29, h0_30, h0_31, h0_32, h0_33, h0_34, h0_35, h0_36, h0_37, h0_38, h0_39, .int ms, .ref h1, .ref h2, h0_43, h0_44, h0_45, h0_46, h0_47, h0_48, h0_49, h0_50, h0_51, h0_52, h0_53, h0_54, h0_55, h0_56, h0_57, h0_58, h0_59, h0_60, h0_61, h0_62, h0_63, h0_64, h0_65, h0_66, h0_67, h0_68, h0_69])), (h1, .inl (ch1, 200, .inl fh1)), (h2, .inl (ch2, 600, .inl fh2))] := hD
  refine lv_aload_n hx hb dX12_measure_5 rfl (lv_at hl 0 rfl) ?_
  refine lv_iload_n hx hb dX12_measure_6 rfl (lv_at hl 1 rfl) ?_
  have hPc := hP.sub (ws' := [(h0, .inr (12, [h0_0, h0_1, .int 0, .int ml, h0_4, h0_5, h0_6, h0_7, h0_8, h0_9, h0_10, h0_11, h0_12, h0_13, h0_14, h0_15, h0_16, h0_17, h0_18, h0_19, h0_20, h0_21, h0_22, h0_23, h0_24, h0_25, h0_26, h0_27, h0_28, h0_29, h0_30, h0_31, h0_32, h0_33, h0_34, h0_35, h0_36, h0_37, h0_38, h0_39, .int ms, .ref h1, .ref h2, h0_43, h0_44, h0_45, h0_46, h0_47, h0_48, h0_49, h0_50, h0_51, h0_52, h0_53, h0_54, h0_55, h0_56, h0_57, h0_58, h0_59, h0_60, h0_61, h0_62, h0_63, h0_64, h0_65, h0_66, h0_67, h0_68, h0_69]))]) [0] rfl
  have hDc := hD.sub (ws' := [(h0, .inr (12, [h0_0, h0_1, .int 0, .int ml, h0_4, h0_5, h0_6, h0_7, h0_8, h0_9, h0_10, h0_11, h0_12, h0_13, h0_14, h0_15, h0_16, h0_17, h0_18, h0_19, h0_20, h0_21, h0_22, h0_23, h0_24, h0_25, h0_26, h0_27, h0_28, h0_29, h0_30, h0_31, h0_32, h0_33, h0_34, h0_35, h0_36, h0_37, h0_38, h0_39, .int ms, .ref h1, .ref h2, h0_43, h0_44, h0_45, h0_46, h0_47, h0_48, h0_49, h0_50, h0_51, h0_52, h0_53, h0_54, h0_55, h0_56, h0_57, h0_58, h0_59, h0_60, h0_61, h0_62, h0_63, h0_64, h0_65, h0_66, h0_67, h0_68, h0_69]))]) [0] (by decide) rfl
  have hKc := hK.sub (tys' := []) [] rfl
  have hFc := va_free (ws := []) (wc := []) (z_D0 _) hS hA [] rfl
  refine va_calli (va_runV (As := [.int p1]) (rest := []) ⟨hx, hb, hml, hown, hts⟩ (s_X12_isLayerA l dC dI H_1.size h0 p1 h0_0 h0_1 (.int 0) ml h0_4 h0_5 h0_6 h0_7 h0_8 h0_9 h0_10 h0_11 h0_12 h0_13 h0_14 h0_15 h0_16 h0_17 h0_18 h0_19 h0_20 h0_21 h0_22 h0_23 h0_24 h0_25 h0_26 h0_27 h0_28 h0_29 h0_30 h0_31 h0_32 h0_33 h0_34 h0_35 h0_36 h0_37 h0_38 h0_39 (.int ms) (.ref h1) (.ref h2) h0_43 h0_44 h0_45 h0_46 h0_47 h0_48 h0_49 h0_50 h0_51 h0_52 h0_53 h0_54 h0_55 h0_56 h0_57 h0_58 h0_59 h0_60 h0_61 h0_62 h0_63 h0_64 h0_65 h0_66 h0_67 h0_68 h0_69 (by first | omega | decide)) (cwV 1 hts gw_s_X12_measureA_s_X12_isLayerA_157 rfl rfl rfl (by decide +kernel) ⟨Nat.le_of_ble_eq_true rfl, Nat.le_of_ble_eq_true rfl⟩) ⟨z_blind, va_recv hKc hPc (ci := 12) (q0 := 0) rfl rfl, z_pre hPc hKc hDc⟩ rfl rfl hl.1 rfl (lv_room (Nat.le_of_ble_eq_true rfl)) dX12_measure_7 ⟨Nat.le_of_ble_eq_true rfl, Nat.le_of_ble_eq_true rfl⟩) hS (fun q _ h => hFc q h) hFc (fun r_3 u t H_2 locs ht hvm hw_4 hB hz1 hk1 hS => ?_)
  have hP := z_pure hP hk1
  have hP : va_P (dC, dI) vwCl [(h0, .inr (12, [h0_0, h0_1, .int 0, .int ml, h0_4, h0_5, h0_6, h0_7, h0_8, h0_9, h0_10, h0_11, h0_12, h0_13, h0_14, h0_15, h0_16, h0_17, h0_18, h0_19, h0_20, h0_21, h0_22, h0_23, h0_24, h0_25, h0_26, h0_27, h0_28, h0_29, h0_30, h0_31, h0_32, h0_33, h0_34, h0_35, h0_36, h0_37, h0_38, h0_39, .int ms, .ref h1, .ref h2, h0_43, h0_44, h0_45, h0_46, h0_47, h0_48, h0_49, h0_50, h0_51, h0_52, h0_53, h0_54, h0_55, h0_56, h0_57, h0_58, h0_59, h0_60, h0_61, h0_62, h0_63, h0_64, h0_65, h0_66, h0_67, h0_68, h0_69])), (h1, .inl (ch1, 200, .inl fh1)), (h2, .inl (ch2, 600, .inl fh2))] H_2 := hP
  have hD : va_D A [(h0, .inr (12, [h0_0, h0_1, .int 0, .int ml, h0_4, h0_5, h0_6, h0_7, h0_8, h0_9, h0_10, h0_11, h0_12, h0_13, h0_14, h0_15, h0_16, h0_17, h0_18, h0_19, h0_20, h0_21, h0_22, h0_23, h0_24, h0_25, h0_26, h0_27, h0_28, h0_29, h0_30, h0_31, h0_32, h0_33, h0_34, h0_35, h0_36, h0_37, h0_38, h0_39, .int ms, .ref h1, .ref h2, h0_43, h0_44, h0_45, h0_46, h0_47, h0_48, h0_49, h0_50, h0_51, h0_52, h0_53, h0_54, h0_55, h0_56, h0_57, h0_58, h0_59, h0_60, h0_61, h0_62, h0_63, h0_64, h0_65, h0_66, h0_67, h0_68, h0_69])), (h1, .inl (ch1, 200, .inl fh1)), (h2, .inl (ch2, 600, .inl fh2))] := hD
  clear hPc hDc hKc
  rcases hw_4 with ⟨rfl, hw_4⟩ | ⟨rfl, hw_4⟩
  · have hw_4 : (0 ≤ p1.toInt ∧ p1.toInt < ml.toInt) := hw_4
    refine lv_if_eq (tgt := 55) hx hb dX12_measure_10 (by decide) (fun c_5 => absurd c_5 (by decide)) (fun _ => ?_)
    refine lv_aload_n hx hb dX12_measure_13 rfl (lv_at hl 0 rfl) ?_
    refine va_get (D := (dC, dI)) (ci := 12) (v := .int ms) (C := RX12) (T := TX12) (N := 70) hx hb hts hiX12 hown hK hP 0 rfl rfl 40 (by decide) w__fieldLink_RX12_311_ShellHeapModel_shells_I_ (fun _ h9 => h9) rfl dX12_measure_14 ?_
    refine lv_sipush (v := 200) hx hb dX12_measure_17 (by decide) ?_
    refine lv_icmp_eq (tgt := 55) hx hb dX12_measure_20 (by decide) (fun c_6 => ?_) (fun c_6 => ?_)
    · have k_7 : (ms).toInt = (200 : Int) := z_eq c_6
      refine lv_iconst (v := (-1)) hx hb dX12_measure_55 (by decide) ?_
      have hP9 := hP.sub (ws' := [(h0, .inr (12, [h0_0, h0_1, .int 0, .int ml, h0_4, h0_5, h0_6, h0_7, h0_8, h0_9, h0_10, h0_11, h0_12, h0_13, h0_14, h0_15, h0_16, h0_17, h0_18, h0_19, h0_20, h0_21, h0_22, h0_23, h0_24, h0_25, h0_26, h0_27, h0_28, h0_29, h0_30, h0_31, h0_32, h0_33, h0_34, h0_35, h0_36, h0_37, h0_38, h0_39, .int ms, .ref h1, .ref h2, h0_43, h0_44, h0_45, h0_46, h0_47, h0_48, h0_49, h0_50, h0_51, h0_52, h0_53, h0_54, h0_55, h0_56, h0_57, h0_58, h0_59, h0_60, h0_61, h0_62, h0_63, h0_64, h0_65, h0_66, h0_67, h0_68, h0_69])), (h1, .inl (ch1, 200, .inl fh1)), (h2, .inl (ch2, 600, .inl fh2))]) [0, 1, 2] rfl
      have hD9 := hD.sub (ws' := [(h0, .inr (12, [h0_0, h0_1, .int 0, .int ml, h0_4, h0_5, h0_6, h0_7, h0_8, h0_9, h0_10, h0_11, h0_12, h0_13, h0_14, h0_15, h0_16, h0_17, h0_18, h0_19, h0_20, h0_21, h0_22, h0_23, h0_24, h0_25, h0_26, h0_27, h0_28, h0_29, h0_30, h0_31, h0_32, h0_33, h0_34, h0_35, h0_36, h0_37, h0_38, h0_39, .int ms, .ref h1, .ref h2, h0_43, h0_44, h0_45, h0_46, h0_47, h0_48, h0_49, h0_50, h0_51, h0_52, h0_53, h0_54, h0_55, h0_56, h0_57, h0_58, h0_59, h0_60, h0_61, h0_62, h0_63, h0_64, h0_65, h0_66, h0_67, h0_68, h0_69])), (h1, .inl (ch1, 200, .inl fh1)), (h2, .inl (ch2, 600, .inl fh2))]) [0, 1, 2] (by decide) rfl
      have hK9 := hK.sub (tys' := []) [] rfl
      refine W.widen (k := 0) (n := 0) (Nat.le_of_ble_eq_true rfl) (Nat.le_of_ble_eq_true rfl) ?_
      exact W.iret (v := (-1)) hx hb hr (fun t ht hW => ⟨⟨(-1), (), rfl, (show (-1) = v_meA ml ms p1 p2 p3 p4 by unfold v_meA; rw [if_neg (by omega)]), ⟨0, ms, fh1, fh2, (by first | omega | decide), hI_h1, (show ms = v_meN ml ms p1 p2 p3 p4 by unfold v_meN; rw [if_neg (by omega)]), by rw [ht]; exact hP9, va_K.moved hW.alike hK9, hD9⟩⟩, hS.F ht⟩) hS.2.2 dX12_measure_56
    · have k_8 : (ms).toInt ≠ (200 : Int) := z_ne c_6
      refine lv_iload_n hx hb dX12_measure_23 rfl (lv_at hl 2 rfl) ?_
      refine lv_if_lt (tgt := 55) hx hb dX12_measure_24 (by decide) (fun c_9 => ?_) (fun c_9 => ?_)
      · have k_10 : (p2).toInt < (0 : Int) := z_lt c_9
        refine lv_iconst (v := (-1)) hx hb dX12_measure_55 (by decide) ?_
        have hP9 := hP.sub (ws' := [(h0, .inr (12, [h0_0, h0_1, .int 0, .int ml, h0_4, h0_5, h0_6, h0_7, h0_8, h0_9, h0_10, h0_11, h0_12, h0_13, h0_14, h0_15, h0_16, h0_17, h0_18, h0_19, h0_20, h0_21, h0_22, h0_23, h0_24, h0_25, h0_26, h0_27, h0_28, h0_29, h0_30, h0_31, h0_32, h0_33, h0_34, h0_35, h0_36, h0_37, h0_38, h0_39, .int ms, .ref h1, .ref h2, h0_43, h0_44, h0_45, h0_46, h0_47, h0_48, h0_49, h0_50, h0_51, h0_52, h0_53, h0_54, h0_55, h0_56, h0_57, h0_58, h0_59, h0_60, h0_61, h0_62, h0_63, h0_64, h0_65, h0_66, h0_67, h0_68, h0_69])), (h1, .inl (ch1, 200, .inl fh1)), (h2, .inl (ch2, 600, .inl fh2))]) [0, 1, 2] rfl
        have hD9 := hD.sub (ws' := [(h0, .inr (12, [h0_0, h0_1, .int 0, .int ml, h0_4, h0_5, h0_6, h0_7, h0_8, h0_9, h0_10, h0_11, h0_12, h0_13, h0_14, h0_15, h0_16, h0_17, h0_18, h0_19, h0_20, h0_21, h0_22, h0_23, h0_24, h0_25, h0_26, h0_27, h0_28, h0_29, h0_30, h0_31, h0_32, h0_33, h0_34, h0_35, h0_36, h0_37, h0_38, h0_39, .int ms, .ref h1, .ref h2, h0_43, h0_44, h0_45, h0_46, h0_47, h0_48, h0_49, h0_50, h0_51, h0_52, h0_53, h0_54, h0_55, h0_56, h0_57, h0_58, h0_59, h0_60, h0_61, h0_62, h0_63, h0_64, h0_65, h0_66, h0_67, h0_68, h0_69])), (h1, .inl (ch1, 200, .inl fh1)), (h2, .inl (ch2, 600, .inl fh2))]) [0, 1, 2] (by decide) rfl
        have hK9 := hK.sub (tys' := []) [] rfl
        refine W.widen (k := 0) (n := 0) (Nat.le_of_ble_eq_true rfl) (Nat.le_of_ble_eq_true rfl) ?_
        exact W.iret (v := (-1)) hx hb hr (fun t ht hW => ⟨⟨(-1), (), rfl, (show (-1) = v_meA ml ms p1 p2 p3 p4 by unfold v_meA; rw [if_neg (by omega)]), ⟨0, ms, fh1, fh2, (by first | omega | decide), hI_h1, (show ms = v_meN ml ms p1 p2 p3 p4 by unfold v_meN; rw [if_neg (by omega)]), by rw [ht]; exact hP9, va_K.moved hW.alike hK9, hD9⟩⟩, hS.F ht⟩) hS.2.2 dX12_measure_56
      · have k_11 : (p2).toInt ≥ (0 : Int) := z_nlt c_9
        refine lv_iload_n hx hb dX12_measure_27 rfl (lv_at hl 2 rfl) ?_
        refine lv_bipush (v := 99) hx hb dX12_measure_28 (by decide) ?_
        refine lv_icmp_gt (tgt := 55) hx hb dX12_measure_30 (by decide) (fun c_12 => ?_) (fun c_12 => ?_)
        · have k_13 : (99 : Int) < (p2).toInt := z_lt c_12
          refine lv_iconst (v := (-1)) hx hb dX12_measure_55 (by decide) ?_
          have hP9 := hP.sub (ws' := [(h0, .inr (12, [h0_0, h0_1, .int 0, .int ml, h0_4, h0_5, h0_6, h0_7, h0_8, h0_9, h0_10, h0_11, h0_12, h0_13, h0_14, h0_15, h0_16, h0_17, h0_18, h0_19, h0_20, h0_21, h0_22, h0_23, h0_24, h0_25, h0_26, h0_27, h0_28, h0_29, h0_30, h0_31, h0_32, h0_33, h0_34, h0_35, h0_36, h0_37, h0_38, h0_39, .int ms, .ref h1, .ref h2, h0_43, h0_44, h0_45, h0_46, h0_47, h0_48, h0_49, h0_50, h0_51, h0_52, h0_53, h0_54, h0_55, h0_56, h0_57, h0_58, h0_59, h0_60, h0_61, h0_62, h0_63, h0_64, h0_65, h0_66, h0_67, h0_68, h0_69])), (h1, .inl (ch1, 200, .inl fh1)), (h2, .inl (ch2, 600, .inl fh2))]) [0, 1, 2] rfl
          have hD9 := hD.sub (ws' := [(h0, .inr (12, [h0_0, h0_1, .int 0, .int ml, h0_4, h0_5, h0_6, h0_7, h0_8, h0_9, h0_10, h0_11, h0_12, h0_13, h0_14, h0_15, h0_16, h0_17, h0_18, h0_19, h0_20, h0_21, h0_22, h0_23, h0_24, h0_25, h0_26, h0_27, h0_28, h0_29, h0_30, h0_31, h0_32, h0_33, h0_34, h0_35, h0_36, h0_37, h0_38, h0_39, .int ms, .ref h1, .ref h2, h0_43, h0_44, h0_45, h0_46, h0_47, h0_48, h0_49, h0_50, h0_51, h0_52, h0_53, h0_54, h0_55, h0_56, h0_57, h0_58, h0_59, h0_60, h0_61, h0_62, h0_63, h0_64, h0_65, h0_66, h0_67, h0_68, h0_69])), (h1, .inl (ch1, 200, .inl fh1)), (h2, .inl (ch2, 600, .inl fh2))]) [0, 1, 2] (by decide) rfl
          have hK9 := hK.sub (tys' := []) [] rfl
          refine W.widen (k := 0) (n := 0) (Nat.le_of_ble_eq_true rfl) (Nat.le_of_ble_eq_true rfl) ?_
          exact W.iret (v := (-1)) hx hb hr (fun t ht hW => ⟨⟨(-1), (), rfl, (show (-1) = v_meA ml ms p1 p2 p3 p4 by unfold v_meA; rw [if_neg (by omega)]), ⟨0, ms, fh1, fh2, (by first | omega | decide), hI_h1, (show ms = v_meN ml ms p1 p2 p3 p4 by unfold v_meN; rw [if_neg (by omega)]), by rw [ht]; exact hP9, va_K.moved hW.alike hK9, hD9⟩⟩, hS.F ht⟩) hS.2.2 dX12_measure_56
        · have k_14 : (99 : Int) ≥ (p2).toInt := z_nlt c_12
          refine lv_iload_n hx hb dX12_measure_33 rfl (lv_at hl 3 rfl) ?_
          refine lv_if_lt (tgt := 55) hx hb dX12_measure_34 (by decide) (fun c_15 => ?_) (fun c_15 => ?_)
          · have k_16 : (p3).toInt < (0 : Int) := z_lt c_15
            refine lv_iconst (v := (-1)) hx hb dX12_measure_55 (by decide) ?_
            have hP9 := hP.sub (ws' := [(h0, .inr (12, [h0_0, h0_1, .int 0, .int ml, h0_4, h0_5, h0_6, h0_7, h0_8, h0_9, h0_10, h0_11, h0_12, h0_13, h0_14, h0_15, h0_16, h0_17, h0_18, h0_19, h0_20, h0_21, h0_22, h0_23, h0_24, h0_25, h0_26, h0_27, h0_28, h0_29, h0_30, h0_31, h0_32, h0_33, h0_34, h0_35, h0_36, h0_37, h0_38, h0_39, .int ms, .ref h1, .ref h2, h0_43, h0_44, h0_45, h0_46, h0_47, h0_48, h0_49, h0_50, h0_51, h0_52, h0_53, h0_54, h0_55, h0_56, h0_57, h0_58, h0_59, h0_60, h0_61, h0_62, h0_63, h0_64, h0_65, h0_66, h0_67, h0_68, h0_69])), (h1, .inl (ch1, 200, .inl fh1)), (h2, .inl (ch2, 600, .inl fh2))]) [0, 1, 2] rfl
            have hD9 := hD.sub (ws' := [(h0, .inr (12, [h0_0, h0_1, .int 0, .int ml, h0_4, h0_5, h0_6, h0_7, h0_8, h0_9, h0_10, h0_11, h0_12, h0_13, h0_14, h0_15, h0_16, h0_17, h0_18, h0_19, h0_20, h0_21, h0_22, h0_23, h0_24, h0_25, h0_26, h0_27, h0_28, h0_29, h0_30, h0_31, h0_32, h0_33, h0_34, h0_35, h0_36, h0_37, h0_38, h0_39, .int ms, .ref h1, .ref h2, h0_43, h0_44, h0_45, h0_46, h0_47, h0_48, h0_49, h0_50, h0_51, h0_52, h0_53, h0_54, h0_55, h0_56, h0_57, h0_58, h0_59, h0_60, h0_61, h0_62, h0_63, h0_64, h0_65, h0_66, h0_67, h0_68, h0_69])), (h1, .inl (ch1, 200, .inl fh1)), (h2, .inl (ch2, 600, .inl fh2))]) [0, 1, 2] (by decide) rfl
            have hK9 := hK.sub (tys' := []) [] rfl
            refine W.widen (k := 0) (n := 0) (Nat.le_of_ble_eq_true rfl) (Nat.le_of_ble_eq_true rfl) ?_
            exact W.iret (v := (-1)) hx hb hr (fun t ht hW => ⟨⟨(-1), (), rfl, (show (-1) = v_meA ml ms p1 p2 p3 p4 by unfold v_meA; rw [if_neg (by omega)]), ⟨0, ms, fh1, fh2, (by first | omega | decide), hI_h1, (show ms = v_meN ml ms p1 p2 p3 p4 by unfold v_meN; rw [if_neg (by omega)]), by rw [ht]; exact hP9, va_K.moved hW.alike hK9, hD9⟩⟩, hS.F ht⟩) hS.2.2 dX12_measure_56
          · have k_17 : (p3).toInt ≥ (0 : Int) := z_nlt c_15
            refine lv_iload_n hx hb dX12_measure_37 rfl (lv_at hl 3 rfl) ?_
            refine lv_bipush (v := 30) hx hb dX12_measure_38 (by decide) ?_
            refine lv_icmp_gt (tgt := 55) hx hb dX12_measure_40 (by decide) (fun c_18 => ?_) (fun c_18 => ?_)
            · have k_19 : (30 : Int) < (p3).toInt := z_lt c_18
              refine lv_iconst (v := (-1)) hx hb dX12_measure_55 (by decide) ?_
              have hP9 := hP.sub (ws' := [(h0, .inr (12, [h0_0, h0_1, .int 0, .int ml, h0_4, h0_5, h0_6, h0_7, h0_8, h0_9, h0_10, h0_11, h0_12, h0_13, h0_14, h0_15, h0_16, h0_17, h0_18, h0_19, h0_20, h0_21, h0_22, h0_23, h0_24, h0_25, h0_26, h0_27, h0_28, h0_29, h0_30, h0_31, h0_32, h0_33, h0_34, h0_35, h0_36, h0_37, h0_38, h0_39, .int ms, .ref h1, .ref h2, h0_43, h0_44, h0_45, h0_46, h0_47, h0_48, h0_49, h0_50, h0_51, h0_52, h0_53, h0_54, h0_55, h0_56, h0_57, h0_58, h0_59, h0_60, h0_61, h0_62, h0_63, h0_64, h0_65, h0_66, h0_67, h0_68, h0_69])), (h1, .inl (ch1, 200, .inl fh1)), (h2, .inl (ch2, 600, .inl fh2))]) [0, 1, 2] rfl
              have hD9 := hD.sub (ws' := [(h0, .inr (12, [h0_0, h0_1, .int 0, .int ml, h0_4, h0_5, h0_6, h0_7, h0_8, h0_9, h0_10, h0_11, h0_12, h0_13, h0_14, h0_15, h0_16, h0_17, h0_18, h0_19, h0_20, h0_21, h0_22, h0_23, h0_24, h0_25, h0_26, h0_27, h0_28, h0_29, h0_30, h0_31, h0_32, h0_33, h0_34, h0_35, h0_36, h0_37, h0_38, h0_39, .int ms, .ref h1, .ref h2, h0_43, h0_44, h0_45, h0_46, h0_47, h0_48, h0_49, h0_50, h0_51, h0_52, h0_53, h0_54, h0_55, h0_56, h0_57, h0_58, h0_59, h0_60, h0_61, h0_62, h0_63, h0_64, h0_65, h0_66, h0_67, h0_68, h0_69])), (h1, .inl (ch1, 200, .inl fh1)), (h2, .inl (ch2, 600, .inl fh2))]) [0, 1, 2] (by decide) rfl
              have hK9 := hK.sub (tys' := []) [] rfl
              refine W.widen (k := 0) (n := 0) (Nat.le_of_ble_eq_true rfl) (Nat.le_of_ble_eq_true rfl) ?_
              exact W.iret (v := (-1)) hx hb hr (fun t ht hW => ⟨⟨(-1), (), rfl, (show (-1) = v_meA ml ms p1 p2 p3 p4 by unfold v_meA; rw [if_neg (by omega)]), ⟨0, ms, fh1, fh2, (by first | omega | decide), hI_h1, (show ms = v_meN ml ms p1 p2 p3 p4 by unfold v_meN; rw [if_neg (by omega)]), by rw [ht]; exact hP9, va_K.moved hW.alike hK9, hD9⟩⟩, hS.F ht⟩) hS.2.2 dX12_measure_56
            · have k_20 : (30 : Int) ≥ (p3).toInt := z_nlt c_18
              refine lv_iload hx hb dX12_measure_43 (lv_at hl 4 rfl) ?_
              refine lv_if_lt (tgt := 55) hx hb dX12_measure_45 (by decide) (fun c_21 => ?_) (fun c_21 => ?_)
              · have k_22 : (p4).toInt < (0 : Int) := z_lt c_21
                refine lv_iconst (v := (-1)) hx hb dX12_measure_55 (by decide) ?_
                have hP9 := hP.sub (ws' := [(h0, .inr (12, [h0_0, h0_1, .int 0, .int ml, h0_4, h0_5, h0_6, h0_7, h0_8, h0_9, h0_10, h0_11, h0_12, h0_13, h0_14, h0_15, h0_16, h0_17, h0_18, h0_19, h0_20, h0_21, h0_22, h0_23, h0_24, h0_25, h0_26, h0_27, h0_28, h0_29, h0_30, h0_31, h0_32, h0_33, h0_34, h0_35, h0_36, h0_37, h0_38, h0_39, .int ms, .ref h1, .ref h2, h0_43, h0_44, h0_45, h0_46, h0_47, h0_48, h0_49, h0_50, h0_51, h0_52, h0_53, h0_54, h0_55, h0_56, h0_57, h0_58, h0_59, h0_60, h0_61, h0_62, h0_63, h0_64, h0_65, h0_66, h0_67, h0_68, h0_69])), (h1, .inl (ch1, 200, .inl fh1)), (h2, .inl (ch2, 600, .inl fh2))]) [0, 1, 2] rfl
                have hD9 := hD.sub (ws' := [(h0, .inr (12, [h0_0, h0_1, .int 0, .int ml, h0_4, h0_5, h0_6, h0_7, h0_8, h0_9, h0_10, h0_11, h0_12, h0_13, h0_14, h0_15, h0_16, h0_17, h0_18, h0_19, h0_20, h0_21, h0_22, h0_23, h0_24, h0_25, h0_26, h0_27, h0_28, h0_29, h0_30, h0_31, h0_32, h0_33, h0_34, h0_35, h0_36, h0_37, h0_38, h0_39, .int ms, .ref h1, .ref h2, h0_43, h0_44, h0_45, h0_46, h0_47, h0_48, h0_49, h0_50, h0_51, h0_52, h0_53, h0_54, h0_55, h0_56, h0_57, h0_58, h0_59, h0_60, h0_61, h0_62, h0_63, h0_64, h0_65, h0_66, h0_67, h0_68, h0_69])), (h1, .inl (ch1, 200, .inl fh1)), (h2, .inl (ch2, 600, .inl fh2))]) [0, 1, 2] (by decide) rfl
                have hK9 := hK.sub (tys' := []) [] rfl
                refine W.widen (k := 0) (n := 0) (Nat.le_of_ble_eq_true rfl) (Nat.le_of_ble_eq_true rfl) ?_
                exact W.iret (v := (-1)) hx hb hr (fun t ht hW => ⟨⟨(-1), (), rfl, (show (-1) = v_meA ml ms p1 p2 p3 p4 by unfold v_meA; rw [if_neg (by omega)]), ⟨0, ms, fh1, fh2, (by first | omega | decide), hI_h1, (show ms = v_meN ml ms p1 p2 p3 p4 by unfold v_meN; rw [if_neg (by omega)]), by rw [ht]; exact hP9, va_K.moved hW.alike hK9, hD9⟩⟩, hS.F ht⟩) hS.2.2 dX12_measure_56
              · have k_23 : (p4).toInt ≥ (0 : Int) := z_nlt c_21
                refine lv_iload hx hb dX12_measure_48 (lv_at hl 4 rfl) ?_
                refine lv_bipush (v := 99) hx hb dX12_measure_50 (by decide) ?_
                refine lv_icmp_le (tgt := 57) hx hb dX12_measure_52 (by decide) (fun c_24 => ?_) (fun c_24 => ?_)
                · have k_25 : (p4).toInt ≤ (99 : Int) := z_le c_24
                  refine lv_aload_n hx hb dX12_measure_57 rfl (lv_at hl 0 rfl) ?_
                  refine va_get (D := (dC, dI)) (ci := 12) (v := .ref h1) (C := RX12) (T := TX12) (N := 70) hx hb hts hiX12 hown hK hP 0 rfl rfl 41 (by decide) w__fieldLink_RX12_90_ShellHeapModel_shellOf_I_ (fun _ h9 => h9) rfl dX12_measure_58 ?_
                  refine lv_aload_n hx hb dX12_measure_61 rfl (lv_at hl 0 rfl) ?_
                  refine va_get (D := (dC, dI)) (ci := 12) (v := .int ms) (C := RX12) (T := TX12) (N := 70) hx hb hts hiX12 hown hK hP 0 rfl rfl 40 (by decide) w__fieldLink_RX12_311_ShellHeapModel_shells_I_ (fun _ h9 => h9) rfl dX12_measure_62 ?_
                  refine lv_iload_n hx hb dX12_measure_65 rfl (lv_at hl 1 rfl) ?_
                  refine va_iast hx hb hK hP hD hS 1 0 rfl rfl (z_vpin (by omega) (by omega)) dX12_measure_66 (fun H_26 locs hP hD hS => ?_)
                  have hP : va_P (dC, dI) vwCl [(h0, .inr (12, [h0_0, h0_1, .int 0, .int ml, h0_4, h0_5, h0_6, h0_7, h0_8, h0_9, h0_10, h0_11, h0_12, h0_13, h0_14, h0_15, h0_16, h0_17, h0_18, h0_19, h0_20, h0_21, h0_22, h0_23, h0_24, h0_25, h0_26, h0_27, h0_28, h0_29, h0_30, h0_31, h0_32, h0_33, h0_34, h0_35, h0_36, h0_37, h0_38, h0_39, .int ms, .ref h1, .ref h2, h0_43, h0_44, h0_45, h0_46, h0_47, h0_48, h0_49, h0_50, h0_51, h0_52, h0_53, h0_54, h0_55, h0_56, h0_57, h0_58, h0_59, h0_60, h0_61, h0_62, h0_63, h0_64, h0_65, h0_66, h0_67, h0_68, h0_69])), (h1, .inl (ch1, 200, .inl (upd fh1 (ms : Int32).toNatClampNeg p1))), (h2, .inl (ch2, 600, .inl fh2))] H_26 := hP
                  have hD : va_D A [(h0, .inr (12, [h0_0, h0_1, .int 0, .int ml, h0_4, h0_5, h0_6, h0_7, h0_8, h0_9, h0_10, h0_11, h0_12, h0_13, h0_14, h0_15, h0_16, h0_17, h0_18, h0_19, h0_20, h0_21, h0_22, h0_23, h0_24, h0_25, h0_26, h0_27, h0_28, h0_29, h0_30, h0_31, h0_32, h0_33, h0_34, h0_35, h0_36, h0_37, h0_38, h0_39, .int ms, .ref h1, .ref h2, h0_43, h0_44, h0_45, h0_46, h0_47, h0_48, h0_49, h0_50, h0_51, h0_52, h0_53, h0_54, h0_55, h0_56, h0_57, h0_58, h0_59, h0_60, h0_61, h0_62, h0_63, h0_64, h0_65, h0_66, h0_67, h0_68, h0_69])), (h1, .inl (ch1, 200, .inl (upd fh1 (ms : Int32).toNatClampNeg p1))), (h2, .inl (ch2, 600, .inl fh2))] := hD
                  have hI_f_27 : ∀ j : Nat, ((0 : Int) ≤ ((upd fh1 (ms : Int32).toNatClampNeg p1) j).toInt ∧ ((upd fh1 (ms : Int32).toNatClampNeg p1) j).toInt ≤ (11 : Int)) := z_updP (P := fun v => ((0 : Int) ≤ (v).toInt ∧ (v).toInt ≤ (11 : Int))) hI_h1 (show ((0 : Int) ≤ (p1).toInt ∧ (p1).toInt ≤ (11 : Int)) from by first | omega | decide)
                  generalize (upd fh1 (ms : Int32).toNatClampNeg p1) = f_27 at hP hD hI_f_27
                  refine lv_aload_n hx hb dX12_measure_67 rfl (lv_at hl 0 rfl) ?_
                  refine va_get (D := (dC, dI)) (ci := 12) (v := .ref h2) (C := RX12) (T := TX12) (N := 70) hx hb hts hiX12 hown hK hP 0 rfl rfl 42 (by decide) w__fieldLink_RX12_93_ShellHeapModel_shell_I_ (fun _ h9 => h9) rfl dX12_measure_68 ?_
                  refine lv_iconst (v := 3) hx hb dX12_measure_71 (by decide) ?_
                  refine lv_aload_n hx hb dX12_measure_72 rfl (lv_at hl 0 rfl) ?_
                  refine va_get (D := (dC, dI)) (ci := 12) (v := .int ms) (C := RX12) (T := TX12) (N := 70) hx hb hts hiX12 hown hK hP 0 rfl rfl 40 (by decide) w__fieldLink_RX12_311_ShellHeapModel_shells_I_ (fun _ h9 => h9) rfl dX12_measure_73 ?_
                  refine lv_imul hx hb dX12_measure_76 ?_
                  refine lv_topi (fun z_28 ez_28 => ?_)
                  have kz_28 : (z_28).toInt = (3 : Int) * (ms).toInt := by rw [ez_28]; exact z_mul (a := (3 : Int)) (b := (ms).toInt) rfl rfl (by omega) (by omega)
                  refine lv_iload_n hx hb dX12_measure_77 rfl (lv_at hl 2 rfl) ?_
                  refine va_iast hx hb hK hP hD hS 2 1 rfl rfl (z_vpin (by omega) (by omega)) dX12_measure_78 (fun H_29 locs hP hD hS => ?_)
                  have hP : va_P (dC, dI) vwCl [(h0, .inr (12, [h0_0, h0_1, .int 0, .int ml, h0_4, h0_5, h0_6, h0_7, h0_8, h0_9, h0_10, h0_11, h0_12, h0_13, h0_14, h0_15, h0_16, h0_17, h0_18, h0_19, h0_20, h0_21, h0_22, h0_23, h0_24, h0_25, h0_26, h0_27, h0_28, h0_29, h0_30, h0_31, h0_32, h0_33, h0_34, h0_35, h0_36, h0_37, h0_38, h0_39, .int ms, .ref h1, .ref h2, h0_43, h0_44, h0_45, h0_46, h0_47, h0_48, h0_49, h0_50, h0_51, h0_52, h0_53, h0_54, h0_55, h0_56, h0_57, h0_58, h0_59, h0_60, h0_61, h0_62, h0_63, h0_64, h0_65, h0_66, h0_67, h0_68, h0_69])), (h1, .inl (ch1, 200, .inl f_27)), (h2, .inl (ch2, 600, .inl (upd fh2 (z_28 : Int32).toNatClampNeg p2)))] H_29 := hP
                  have hD : va_D A [(h0, .inr (12, [h0_0, h0_1, .int 0, .int ml, h0_4, h0_5, h0_6, h0_7, h0_8, h0_9, h0_10, h0_11, h0_12, h0_13, h0_14, h0_15, h0_16, h0_17, h0_18, h0_19, h0_20, h0_21, h0_22, h0_23, h0_24, h0_25, h0_26, h0_27, h0_28, h0_29, h0_30, h0_31, h0_32, h0_33, h0_34, h0_35, h0_36, h0_37, h0_38, h0_39, .int ms, .ref h1, .ref h2, h0_43, h0_44, h0_45, h0_46, h0_47, h0_48, h0_49, h0_50, h0_51, h0_52, h0_53, h0_54, h0_55, h0_56, h0_57, h0_58, h0_59, h0_60, h0_61, h0_62, h0_63, h0_64, h0_65, h0_66, h0_67, h0_68, h0_69])), (h1, .inl (ch1, 200, .inl f_27)), (h2, .inl (ch2, 600, .inl (upd fh2 (z_28 : Int32).toNatClampNeg p2)))] := hD
                  generalize (upd fh2 (z_28 : Int32).toNatClampNeg p2) = f_30 at hP hD
                  refine lv_aload_n hx hb dX12_measure_79 rfl (lv_at hl 0 rfl) ?_
                  refine va_get (D := (dC, dI)) (ci := 12) (v := .ref h2) (C := RX12) (T := TX12) (N := 70) hx hb hts hiX12 hown hK hP 0 rfl rfl 42 (by decide) w__fieldLink_RX12_93_ShellHeapModel_shell_I_ (fun _ h9 => h9) rfl dX12_measure_80 ?_
                  refine lv_iconst (v := 3) hx hb dX12_measure_83 (by decide) ?_
                  refine lv_aload_n hx hb dX12_measure_84 rfl (lv_at hl 0 rfl) ?_
                  refine va_get (D := (dC, dI)) (ci := 12) (v := .int ms) (C := RX12) (T := TX12) (N := 70) hx hb hts hiX12 hown hK hP 0 rfl rfl 40 (by decide) w__fieldLink_RX12_311_ShellHeapModel_shells_I_ (fun _ h9 => h9) rfl dX12_measure_85 ?_
                  refine lv_imul hx hb dX12_measure_88 ?_
                  refine lv_topi (fun z_31 ez_31 => ?_)
                  have kz_31 : (z_31).toInt = (3 : Int) * (ms).toInt := by rw [ez_31]; exact z_mul (a := (3 : Int)) (b := (ms).toInt) rfl rfl (by omega) (by omega)
                  refine lv_iconst (v := 1) hx hb dX12_measure_89 (by decide) ?_
                  refine lv_iadd hx hb dX12_measure_90 ?_
                  refine lv_topi (fun z_32 ez_32 => ?_)
                  have kz_32 : (z_32).toInt = (z_31).toInt + (1 : Int) := by rw [ez_32]; exact z_add (a := (z_31).toInt) (b := (1 : Int)) rfl rfl (by omega) (by omega)
                  refine lv_iload_n hx hb dX12_measure_91 rfl (lv_at hl 3 rfl) ?_
                  refine va_iast hx hb hK hP hD hS 2 1 rfl rfl (z_vpin (by omega) (by omega)) dX12_measure_92 (fun H_33 locs hP hD hS => ?_)
                  have hP : va_P (dC, dI) vwCl [(h0, .inr (12, [h0_0, h0_1, .int 0, .int ml, h0_4, h0_5, h0_6, h0_7, h0_8, h0_9, h0_10, h0_11, h0_12, h0_13, h0_14, h0_15, h0_16, h0_17, h0_18, h0_19, h0_20, h0_21, h0_22, h0_23, h0_24, h0_25, h0_26, h0_27, h0_28, h0_29, h0_30, h0_31, h0_32, h0_33, h0_34, h0_35, h0_36, h0_37, h0_38, h0_39, .int ms, .ref h1, .ref h2, h0_43, h0_44, h0_45, h0_46, h0_47, h0_48, h0_49, h0_50, h0_51, h0_52, h0_53, h0_54, h0_55, h0_56, h0_57, h0_58, h0_59, h0_60, h0_61, h0_62, h0_63, h0_64, h0_65, h0_66, h0_67, h0_68, h0_69])), (h1, .inl (ch1, 200, .inl f_27)), (h2, .inl (ch2, 600, .inl (upd f_30 (z_32 : Int32).toNatClampNeg p3)))] H_33 := hP
                  have hD : va_D A [(h0, .inr (12, [h0_0, h0_1, .int 0, .int ml, h0_4, h0_5, h0_6, h0_7, h0_8, h0_9, h0_10, h0_11, h0_12, h0_13, h0_14, h0_15, h0_16, h0_17, h0_18, h0_19, h0_20, h0_21, h0_22, h0_23, h0_24, h0_25, h0_26, h0_27, h0_28, h0_29, h0_30, h0_31, h0_32, h0_33, h0_34, h0_35, h0_36, h0_37, h0_38, h0_39, .int ms, .ref h1, .ref h2, h0_43, h0_44, h0_45, h0_46, h0_47, h0_48, h0_49, h0_50, h0_51, h0_52, h0_53, h0_54, h0_55, h0_56, h0_57, h0_58, h0_59, h0_60, h0_61, h0_62, h0_63, h0_64, h0_65, h0_66, h0_67, h0_68, h0_69])), (h1, .inl (ch1, 200, .inl f_27)), (h2, .inl (ch2, 600, .inl (upd f_30 (z_32 : Int32).toNatClampNeg p3)))] := hD
                  generalize (upd f_30 (z_32 : Int32).toNatClampNeg p3) = f_34 at hP hD
                  refine lv_aload_n hx hb dX12_measure_93 rfl (lv_at hl 0 rfl) ?_
                  refine va_get (D := (dC, dI)) (ci := 12) (v := .ref h2) (C := RX12) (T := TX12) (N := 70) hx hb hts hiX12 hown hK hP 0 rfl rfl 42 (by decide) w__fieldLink_RX12_93_ShellHeapModel_shell_I_ (fun _ h9 => h9) rfl dX12_measure_94 ?_
                  refine lv_iconst (v := 3) hx hb dX12_measure_97 (by decide) ?_
                  refine lv_aload_n hx hb dX12_measure_98 rfl (lv_at hl 0 rfl) ?_
                  refine va_get (D := (dC, dI)) (ci := 12) (v := .int ms) (C := RX12) (T := TX12) (N := 70) hx hb hts hiX12 hown hK hP 0 rfl rfl 40 (by decide) w__fieldLink_RX12_311_ShellHeapModel_shells_I_ (fun _ h9 => h9) rfl dX12_measure_99 ?_
                  refine lv_imul hx hb dX12_measure_102 ?_
                  refine lv_topi (fun z_35 ez_35 => ?_)
                  have kz_35 : (z_35).toInt = (3 : Int) * (ms).toInt := by rw [ez_35]; exact z_mul (a := (3 : Int)) (b := (ms).toInt) rfl rfl (by omega) (by omega)
                  refine lv_iconst (v := 2) hx hb dX12_measure_103 (by decide) ?_
                  refine lv_iadd hx hb dX12_measure_104 ?_
                  refine lv_topi (fun z_36 ez_36 => ?_)
                  have kz_36 : (z_36).toInt = (z_35).toInt + (2 : Int) := by rw [ez_36]; exact z_add (a := (z_35).toInt) (b := (2 : Int)) rfl rfl (by omega) (by omega)
                  refine lv_iload hx hb dX12_measure_105 (lv_at hl 4 rfl) ?_
                  refine va_iast hx hb hK hP hD hS 2 1 rfl rfl (z_vpin (by omega) (by omega)) dX12_measure_107 (fun H_37 locs hP hD hS => ?_)
                  have hP : va_P (dC, dI) vwCl [(h0, .inr (12, [h0_0, h0_1, .int 0, .int ml, h0_4, h0_5, h0_6, h0_7, h0_8, h0_9, h0_10, h0_11, h0_12, h0_13, h0_14, h0_15, h0_16, h0_17, h0_18, h0_19, h0_20, h0_21, h0_22, h0_23, h0_24, h0_25, h0_26, h0_27, h0_28, h0_29, h0_30, h0_31, h0_32, h0_33, h0_34, h0_35, h0_36, h0_37, h0_38, h0_39, .int ms, .ref h1, .ref h2, h0_43, h0_44, h0_45, h0_46, h0_47, h0_48, h0_49, h0_50, h0_51, h0_52, h0_53, h0_54, h0_55, h0_56, h0_57, h0_58, h0_59, h0_60, h0_61, h0_62, h0_63, h0_64, h0_65, h0_66, h0_67, h0_68, h0_69])), (h1, .inl (ch1, 200, .inl f_27)), (h2, .inl (ch2, 600, .inl (upd f_34 (z_36 : Int32).toNatClampNeg p4)))] H_37 := hP
                  have hD : va_D A [(h0, .inr (12, [h0_0, h0_1, .int 0, .int ml, h0_4, h0_5, h0_6, h0_7, h0_8, h0_9, h0_10, h0_11, h0_12, h0_13, h0_14, h0_15, h0_16, h0_17, h0_18, h0_19, h0_20, h0_21, h0_22, h0_23, h0_24, h0_25, h0_26, h0_27, h0_28, h0_29, h0_30, h0_31, h0_32, h0_33, h0_34, h0_35, h0_36, h0_37, h0_38, h0_39, .int ms, .ref h1, .ref h2, h0_43, h0_44, h0_45, h0_46, h0_47, h0_48, h0_49, h0_50, h0_51, h0_52, h0_53, h0_54, h0_55, h0_56, h0_57, h0_58, h0_59, h0_60, h0_61, h0_62, h0_63, h0_64, h0_65, h0_66, h0_67, h0_68, h0_69])), (h1, .inl (ch1, 200, .inl f_27)), (h2, .inl (ch2, 600, .inl (upd f_34 (z_36 : Int32).toNatClampNeg p4)))] := hD
                  generalize (upd f_34 (z_36 : Int32).toNatClampNeg p4) = f_38 at hP hD
                  refine lv_aload_n hx hb dX12_measure_108 rfl (lv_at hl 0 rfl) ?_
                  refine lv_dup hx hb dX12_measure_109 rfl ?_
                  refine va_get (D := (dC, dI)) (ci := 12) (v := .int ms) (C := RX12) (T := TX12) (N := 70) hx hb hts hiX12 hown hK hP 0 rfl rfl 40 (by decide) w__fieldLink_RX12_311_ShellHeapModel_shells_I_ (fun _ h9 => h9) rfl dX12_measure_110 ?_
                  refine lv_iconst (v := 1) hx hb dX12_measure_113 (by decide) ?_
                  refine lv_iadd hx hb dX12_measure_114 ?_
                  refine lv_topi (fun z_39 ez_39 => ?_)
                  have kz_39 : (z_39).toInt = (ms).toInt + (1 : Int) := by rw [ez_39]; exact z_add (a := (ms).toInt) (b := (1 : Int)) rfl rfl (by omega) (by omega)
                  refine va_put (D := (dC, dI)) (ci := 12) (v := .int z_39) (ty := .int) (C := RX12) (T := TX12) (N := 70) hx hb hts hiX12 tyX12 tyX12_ok nmX12 hown hK hP hD hS 0 rfl rfl 40 (by decide) w__fieldLink_RX12_311_ShellHeapModel_shells_I_ (fun _ h9 => h9) rfl (by decide +kernel) rfl rfl (Nat.le_of_ble_eq_true rfl) dX12_measure_115 (fun H_40 locs hP hD hS => ?_)
                  have hP : va_P (dC, dI) vwCl [(h0, .inr (12, [h0_0, h0_1, .int 0, .int ml, h0_4, h0_5, h0_6, h0_7, h0_8, h0_9, h0_10, h0_11, h0_12, h0_13, h0_14, h0_15, h0_16, h0_17, h0_18, h0_19, h0_20, h0_21, h0_22, h0_23, h0_24, h0_25, h0_26, h0_27, h0_28, h0_29, h0_30, h0_31, h0_32, h0_33, h0_34, h0_35, h0_36, h0_37, h0_38, h0_39, .int z_39, .ref h1, .ref h2, h0_43, h0_44, h0_45, h0_46, h0_47, h0_48, h0_49, h0_50, h0_51, h0_52, h0_53, h0_54, h0_55, h0_56, h0_57, h0_58, h0_59, h0_60, h0_61, h0_62, h0_63, h0_64, h0_65, h0_66, h0_67, h0_68, h0_69])), (h1, .inl (ch1, 200, .inl f_27)), (h2, .inl (ch2, 600, .inl f_38))] H_40 := hP
                  have hD : va_D A [(h0, .inr (12, [h0_0, h0_1, .int 0, .int ml, h0_4, h0_5, h0_6, h0_7, h0_8, h0_9, h0_10, h0_11, h0_12, h0_13, h0_14, h0_15, h0_16, h0_17, h0_18, h0_19, h0_20, h0_21, h0_22, h0_23, h0_24, h0_25, h0_26, h0_27, h0_28, h0_29, h0_30, h0_31, h0_32, h0_33, h0_34, h0_35, h0_36, h0_37, h0_38, h0_39, .int z_39, .ref h1, .ref h2, h0_43, h0_44, h0_45, h0_46, h0_47, h0_48, h0_49, h0_50, h0_51, h0_52, h0_53, h0_54, h0_55, h0_56, h0_57, h0_58, h0_59, h0_60, h0_61, h0_62, h0_63, h0_64, h0_65, h0_66, h0_67, h0_68, h0_69])), (h1, .inl (ch1, 200, .inl f_27)), (h2, .inl (ch2, 600, .inl f_38))] := hD
                  refine lv_aload_n hx hb dX12_measure_118 rfl (lv_at hl 0 rfl) ?_
                  refine va_get (D := (dC, dI)) (ci := 12) (v := .int z_39) (C := RX12) (T := TX12) (N := 70) hx hb hts hiX12 hown hK hP 0 rfl rfl 40 (by decide) w__fieldLink_RX12_311_ShellHeapModel_shells_I_ (fun _ h9 => h9) rfl dX12_measure_119 ?_
                  have hP9 := hP.sub (ws' := [(h0, .inr (12, [h0_0, h0_1, .int 0, .int ml, h0_4, h0_5, h0_6, h0_7, h0_8, h0_9, h0_10, h0_11, h0_12, h0_13, h0_14, h0_15, h0_16, h0_17, h0_18, h0_19, h0_20, h0_21, h0_22, h0_23, h0_24, h0_25, h0_26, h0_27, h0_28, h0_29, h0_30, h0_31, h0_32, h0_33, h0_34, h0_35, h0_36, h0_37, h0_38, h0_39, .int z_39, .ref h1, .ref h2, h0_43, h0_44, h0_45, h0_46, h0_47, h0_48, h0_49, h0_50, h0_51, h0_52, h0_53, h0_54, h0_55, h0_56, h0_57, h0_58, h0_59, h0_60, h0_61, h0_62, h0_63, h0_64, h0_65, h0_66, h0_67, h0_68, h0_69])), (h1, .inl (ch1, 200, .inl f_27)), (h2, .inl (ch2, 600, .inl f_38))]) [0, 1, 2] rfl
                  have hD9 := hD.sub (ws' := [(h0, .inr (12, [h0_0, h0_1, .int 0, .int ml, h0_4, h0_5, h0_6, h0_7, h0_8, h0_9, h0_10, h0_11, h0_12, h0_13, h0_14, h0_15, h0_16, h0_17, h0_18, h0_19, h0_20, h0_21, h0_22, h0_23, h0_24, h0_25, h0_26, h0_27, h0_28, h0_29, h0_30, h0_31, h0_32, h0_33, h0_34, h0_35, h0_36, h0_37, h0_38, h0_39, .int z_39, .ref h1, .ref h2, h0_43, h0_44, h0_45, h0_46, h0_47, h0_48, h0_49, h0_50, h0_51, h0_52, h0_53, h0_54, h0_55, h0_56, h0_57, h0_58, h0_59, h0_60, h0_61, h0_62, h0_63, h0_64, h0_65, h0_66, h0_67, h0_68, h0_69])), (h1, .inl (ch1, 200, .inl f_27)), (h2, .inl (ch2, 600, .inl f_38))]) [0, 1, 2] (by decide) rfl
                  have hK9 := hK.sub (tys' := []) [] rfl
                  refine W.widen (k := 0) (n := 0) (Nat.le_of_ble_eq_true rfl) (Nat.le_of_ble_eq_true rfl) ?_
                  exact W.iret (v := z_39) hx hb hr (fun t ht hW => ⟨⟨z_39, (), rfl, (show z_39 = v_meA ml ms p1 p2 p3 p4 by unfold v_meA; rw [if_pos (by omega)]; first | exact ez_39 | exact z_ii (by omega)), ⟨0, z_39, f_27, f_38, (by first | omega | decide), hI_f_27, (show z_39 = v_meN ml ms p1 p2 p3 p4 by unfold v_meN; rw [if_pos (by omega)]; exact ez_39), by rw [ht]; exact hP9, va_K.moved hW.alike hK9, hD9⟩⟩, hS.F ht⟩) hS.2.2 dX12_measure_122
                · have k_41 : (p4).toInt > (99 : Int) := z_nle c_24
                  refine lv_iconst (v := (-1)) hx hb dX12_measure_55 (by decide) ?_
                  have hP9 := hP.sub (ws' := [(h0, .inr (12, [h0_0, h0_1, .int 0, .int ml, h0_4, h0_5, h0_6, h0_7, h0_8, h0_9, h0_10, h0_11, h0_12, h0_13, h0_14, h0_15, h0_16, h0_17, h0_18, h0_19, h0_20, h0_21, h0_22, h0_23, h0_24, h0_25, h0_26, h0_27, h0_28, h0_29, h0_30, h0_31, h0_32, h0_33, h0_34, h0_35, h0_36, h0_37, h0_38, h0_39, .int ms, .ref h1, .ref h2, h0_43, h0_44, h0_45, h0_46, h0_47, h0_48, h0_49, h0_50, h0_51, h0_52, h0_53, h0_54, h0_55, h0_56, h0_57, h0_58, h0_59, h0_60, h0_61, h0_62, h0_63, h0_64, h0_65, h0_66, h0_67, h0_68, h0_69])), (h1, .inl (ch1, 200, .inl fh1)), (h2, .inl (ch2, 600, .inl fh2))]) [0, 1, 2] rfl
                  have hD9 := hD.sub (ws' := [(h0, .inr (12, [h0_0, h0_1, .int 0, .int ml, h0_4, h0_5, h0_6, h0_7, h0_8, h0_9, h0_10, h0_11, h0_12, h0_13, h0_14, h0_15, h0_16, h0_17, h0_18, h0_19, h0_20, h0_21, h0_22, h0_23, h0_24, h0_25, h0_26, h0_27, h0_28, h0_29, h0_30, h0_31, h0_32, h0_33, h0_34, h0_35, h0_36, h0_37, h0_38, h0_39, .int ms, .ref h1, .ref h2, h0_43, h0_44, h0_45, h0_46, h0_47, h0_48, h0_49, h0_50, h0_51, h0_52, h0_53, h0_54, h0_55, h0_56, h0_57, h0_58, h0_59, h0_60, h0_61, h0_62, h0_63, h0_64, h0_65, h0_66, h0_67, h0_68, h0_69])), (h1, .inl (ch1, 200, .inl fh1)), (h2, .inl (ch2, 600, .inl fh2))]) [0, 1, 2] (by decide) rfl
                  have hK9 := hK.sub (tys' := []) [] rfl
                  refine W.widen (k := 0) (n := 0) (Nat.le_of_ble_eq_true rfl) (Nat.le_of_ble_eq_true rfl) ?_
                  exact W.iret (v := (-1)) hx hb hr (fun t ht hW => ⟨⟨(-1), (), rfl, (show (-1) = v_meA ml ms p1 p2 p3 p4 by unfold v_meA; rw [if_neg (by omega)]), ⟨0, ms, fh1, fh2, (by first | omega | decide), hI_h1, (show ms = v_meN ml ms p1 p2 p3 p4 by unfold v_meN; rw [if_neg (by omega)]), by rw [ht]; exact hP9, va_K.moved hW.alike hK9, hD9⟩⟩, hS.F ht⟩) hS.2.2 dX12_measure_56
  · have hw_4 : ¬ (0 ≤ p1.toInt ∧ p1.toInt < ml.toInt) := hw_4
    refine lv_if_eq (tgt := 55) hx hb dX12_measure_10 (by decide) (fun _ => ?_) (fun c_42 => absurd (by decide) c_42)
    refine lv_iconst (v := (-1)) hx hb dX12_measure_55 (by decide) ?_
    have hP9 := hP.sub (ws' := [(h0, .inr (12, [h0_0, h0_1, .int 0, .int ml, h0_4, h0_5, h0_6, h0_7, h0_8, h0_9, h0_10, h0_11, h0_12, h0_13, h0_14, h0_15, h0_16, h0_17, h0_18, h0_19, h0_20, h0_21, h0_22, h0_23, h0_24, h0_25, h0_26, h0_27, h0_28, h0_29, h0_30, h0_31, h0_32, h0_33, h0_34, h0_35, h0_36, h0_37, h0_38, h0_39, .int ms, .ref h1, .ref h2, h0_43, h0_44, h0_45, h0_46, h0_47, h0_48, h0_49, h0_50, h0_51, h0_52, h0_53, h0_54, h0_55, h0_56, h0_57, h0_58, h0_59, h0_60, h0_61, h0_62, h0_63, h0_64, h0_65, h0_66, h0_67, h0_68, h0_69])), (h1, .inl (ch1, 200, .inl fh1)), (h2, .inl (ch2, 600, .inl fh2))]) [0, 1, 2] rfl
    have hD9 := hD.sub (ws' := [(h0, .inr (12, [h0_0, h0_1, .int 0, .int ml, h0_4, h0_5, h0_6, h0_7, h0_8, h0_9, h0_10, h0_11, h0_12, h0_13, h0_14, h0_15, h0_16, h0_17, h0_18, h0_19, h0_20, h0_21, h0_22, h0_23, h0_24, h0_25, h0_26, h0_27, h0_28, h0_29, h0_30, h0_31, h0_32, h0_33, h0_34, h0_35, h0_36, h0_37, h0_38, h0_39, .int ms, .ref h1, .ref h2, h0_43, h0_44, h0_45, h0_46, h0_47, h0_48, h0_49, h0_50, h0_51, h0_52, h0_53, h0_54, h0_55, h0_56, h0_57, h0_58, h0_59, h0_60, h0_61, h0_62, h0_63, h0_64, h0_65, h0_66, h0_67, h0_68, h0_69])), (h1, .inl (ch1, 200, .inl fh1)), (h2, .inl (ch2, 600, .inl fh2))]) [0, 1, 2] (by decide) rfl
    have hK9 := hK.sub (tys' := []) [] rfl
    refine W.widen (k := 0) (n := 0) (Nat.le_of_ble_eq_true rfl) (Nat.le_of_ble_eq_true rfl) ?_
    exact W.iret (v := (-1)) hx hb hr (fun t ht hW => ⟨⟨(-1), (), rfl, (show (-1) = v_meA ml ms p1 p2 p3 p4 by unfold v_meA; rw [if_neg (by omega)]), ⟨0, ms, fh1, fh2, (by first | omega | decide), hI_h1, (show ms = v_meN ml ms p1 p2 p3 p4 by unfold v_meN; rw [if_neg (by omega)]), by rw [ht]; exact hP9, va_K.moved hW.alike hK9, hD9⟩⟩, hS.F ht⟩) hS.2.2 dX12_measure_56
