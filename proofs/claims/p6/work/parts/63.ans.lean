theorem z_ii {x y : Int32} (h : x.toInt = y.toInt) : x = y := Int32.toInt_inj.mp h
def v_layA (x : Int32) : Int32 := if x.toInt < 12 then x else (-1)
def v_layN (x : Int32) : Int32 := if x.toInt < 12 then x + 1 else x
def v_kiA (k m v : Int32) : Int32 := if (0 ≤ m.toInt ∧ m.toInt ≤ 999 ∧ 1 ≤ v.toInt ∧ v.toInt ≤ 2 ∧ k.toInt < 6) then k else (-1)
def v_kiN (k m v : Int32) : Int32 := if (0 ≤ m.toInt ∧ m.toInt ≤ 999 ∧ 1 ≤ v.toInt ∧ v.toInt ≤ 2 ∧ k.toInt < 6) then k + 1 else k
def v_keA (k a s o : Int32) : Int32 := if (0 ≤ a.toInt ∧ a.toInt < k.toInt ∧ 0 ≤ s.toInt ∧ s.toInt ≤ 3 ∧ 1 ≤ o.toInt ∧ o.toInt ≤ 16) then 1 else 0
def v_meA (l n a s r w : Int32) : Int32 := if (0 ≤ a.toInt ∧ a.toInt < l.toInt ∧ n.toInt < 200 ∧ 0 ≤ s.toInt ∧ s.toInt ≤ 99 ∧ 0 ≤ r.toInt ∧ r.toInt ≤ 30 ∧ 0 ≤ w.toInt ∧ w.toInt ≤ 99) then n + 1 else (-1)
def v_meN (l n a s r w : Int32) : Int32 := if (0 ≤ a.toInt ∧ a.toInt < l.toInt ∧ n.toInt < 200 ∧ 0 ≤ s.toInt ∧ s.toInt ≤ 99 ∧ 0 ≤ r.toInt ∧ r.toInt ≤ 30 ∧ 0 ≤ w.toInt ∧ w.toInt ≤ 99) then n + 1 else n
def v_hpW (w a b : Int32) : Int32 := if (2 ≤ a.toInt ∧ a.toInt ≤ 12 ∧ 2 ≤ b.toInt ∧ b.toInt ≤ 12) then a else w
def v_hpH (h a b : Int32) : Int32 := if (2 ≤ a.toInt ∧ a.toInt ≤ 12 ∧ 2 ≤ b.toInt ∧ b.toInt ≤ 12) then b else h
def v_hpC (c a b : Int32) : Int32 := if (2 ≤ a.toInt ∧ a.toInt ≤ 12 ∧ 2 ≤ b.toInt ∧ b.toInt ≤ 12) then 0 else c
def v_thA (c n k a m : Int32) : Int32 := if (0 ≤ k.toInt ∧ k.toInt < c.toInt ∧ 0 ≤ a.toInt ∧ a.toInt < n.toInt ∧ 0 ≤ m.toInt ∧ m.toInt ≤ 500) then 1 else 0
def v_no (xs ys : Nat → Int32) (n : Int) (x y : Int32) : Prop := ∀ j : Nat, (j : Int) < n → ¬ ((xs j).toInt = x.toInt ∧ (ys j).toInt = y.toInt)
theorem v_no_0 {xs ys : Nat → Int32} {n : Int} {x y : Int32} (h : n ≤ 0) : v_no xs ys n x y := fun j hj => absurd hj (by omega)
theorem v_no_s {xs ys : Nat → Int32} {i x y : Int32} {n : Int} (h : v_no xs ys i.toInt x y) (hi : (0 : Int) ≤ i.toInt) (hn : n = i.toInt + 1) (hne : ¬ ((xs i.toNatClampNeg).toInt = x.toInt ∧ (ys i.toNatClampNeg).toInt = y.toInt)) : v_no xs ys n x y := by
  intro j hj
  by_cases hji : (j : Int) < i.toInt
  · exact h j hji
  · have e : ((i.toNatClampNeg : Nat) : Int) = i.toInt := Int.toNat_of_nonneg hi
    have e2 : j = i.toNatClampNeg := by omega
    rw [e2]; exact hne
theorem v_no_end {xs ys : Nat → Int32} {n c : Int} {x y : Int32} (h : v_no xs ys n x y) (hc : c ≤ n) : v_no xs ys c x y := fun j hj => h j (by omega)
def v_cok (w h c : Int32) (xs ys : Nat → Int32) (x y : Int32) : Prop := ((0 : Int) ≤ x.toInt ∧ x.toInt < w.toInt ∧ (0 : Int) ≤ y.toInt ∧ y.toInt < h.toInt ∧ c.toInt < (10 : Int)) ∧ v_no xs ys c.toInt x y
theorem v_cok_mk {w h c x y : Int32} {xs ys : Nat → Int32} (h1 : (0 : Int) ≤ x.toInt ∧ x.toInt < w.toInt ∧ (0 : Int) ≤ y.toInt ∧ y.toInt < h.toInt ∧ c.toInt < (10 : Int)) (h2 : v_no xs ys c.toInt x y) : v_cok w h c xs ys x y := ⟨h1, h2⟩
theorem v_cok_out {w h c x y : Int32} {xs ys : Nat → Int32} (h1 : ¬ ((0 : Int) ≤ x.toInt ∧ x.toInt < w.toInt ∧ (0 : Int) ≤ y.toInt ∧ y.toInt < h.toInt ∧ c.toInt < (10 : Int))) : ¬ v_cok w h c xs ys x y := fun q => h1 q.1
theorem v_cok_hit {w h c x y : Int32} {xs ys : Nat → Int32} {i : Int32} (hi : (0 : Int) ≤ i.toInt) (hc : i.toInt < c.toInt) (he : (xs i.toNatClampNeg).toInt = x.toInt ∧ (ys i.toNatClampNeg).toInt = y.toInt) : ¬ v_cok w h c xs ys x y := fun q => by
  have e : ((i.toNatClampNeg : Nat) : Int) = i.toInt := Int.toNat_of_nonneg hi
  exact q.2 i.toNatClampNeg (by omega) he
noncomputable def v_coA (w h c : Int32) (xs ys : Nat → Int32) (x y : Int32) : Int32 := @ite _ (v_cok w h c xs ys x y) (Classical.propDecidable _) c (-1)
noncomputable def v_coN (w h c : Int32) (xs ys : Nat → Int32) (x y : Int32) : Int32 := @ite _ (v_cok w h c xs ys x y) (Classical.propDecidable _) (c + 1) c
noncomputable def v_coX (w h c : Int32) (xs ys : Nat → Int32) (x y : Int32) : Nat → Int32 := @ite _ (v_cok w h c xs ys x y) (Classical.propDecidable _) (upd xs c.toNatClampNeg x) xs
noncomputable def v_coY (w h c : Int32) (xs ys : Nat → Int32) (x y : Int32) : Nat → Int32 := @ite _ (v_cok w h c xs ys x y) (Classical.propDecidable _) (upd ys c.toNatClampNeg y) ys
theorem v_coA_pos {w h c x y : Int32} {xs ys : Nat → Int32} (q : v_cok w h c xs ys x y) : v_coA w h c xs ys x y = c := if_pos q
theorem v_coA_neg {w h c x y : Int32} {xs ys : Nat → Int32} (q : ¬ v_cok w h c xs ys x y) : v_coA w h c xs ys x y = (-1) := if_neg q
theorem v_coN_pos {w h c x y : Int32} {xs ys : Nat → Int32} (q : v_cok w h c xs ys x y) : v_coN w h c xs ys x y = c + 1 := if_pos q
theorem v_coN_neg {w h c x y : Int32} {xs ys : Nat → Int32} (q : ¬ v_cok w h c xs ys x y) : v_coN w h c xs ys x y = c := if_neg q
theorem v_coX_pos {w h c x y : Int32} {xs ys : Nat → Int32} (q : v_cok w h c xs ys x y) : v_coX w h c xs ys x y = upd xs c.toNatClampNeg x := if_pos q
theorem v_coX_neg {w h c x y : Int32} {xs ys : Nat → Int32} (q : ¬ v_cok w h c xs ys x y) : v_coX w h c xs ys x y = xs := if_neg q
theorem v_coY_pos {w h c x y : Int32} {xs ys : Nat → Int32} (q : v_cok w h c xs ys x y) : v_coY w h c xs ys x y = upd ys c.toNatClampNeg y := if_pos q
theorem v_coY_neg {w h c x y : Int32} {xs ys : Nat → Int32} (q : ¬ v_cok w h c xs ys x y) : v_coY w h c xs ys x y = ys := if_neg q
theorem z_add1 {c : Int32} (h : (0 : Int) ≤ c.toInt ∧ c.toInt ≤ (1000 : Int)) : (c + 1).toInt = c.toInt + 1 := z_add (a := c.toInt) (b := (1 : Int)) rfl rfl (by omega) (by omega)
def u_s_X11_layerA : List Cond := .code yX11_layer cX11_layer 1 (some .int) :: ([.fieldLink RX11 19 "ShellHeap" "book" "LShellHeap$Book;", .fieldLink RX11 137 "ShellHeap$Book" "layers" "I"] ++ wsX110 ++ wsX00)
set_option maxHeartbeats 4000000 in
set_option maxRecDepth 100000 in
theorem s_X11_layerA (l : Launch) (dC : Nat → ClassId) (dI : Nat → Nat → Nat) (sz : Nat) (h0 : Nat) (h0_0 : Value) (h1 : Nat) (h0_2 : Value) (h0_3 : Value) (h0_4 : Value) (h0_5 : Value) (h0_6 : Value) (h0_7 : Value) (h0_8 : Value) (h0_9 : Value) (h1_0 : Value) (h1_1 : Value) (h1_2 : Value) (h1_3 : Value) (h1_4 : Value) (bl : Int32) (hB_bl : ((0 : Int) ≤ (bl).toInt ∧ (bl).toInt ≤ (12 : Int))) : Met l yX11_layer u_s_X11_layerA ({ frames := 0, cells := 0, slots := 0, locals := 0 }) (va_Pc [.ref h0] (z_C (dC, dI) vwCl [(h0, .inr (11, [h0_0, .ref h1, h0_2, h0_3, h0_4, h0_5, h0_6, h0_7, h0_8, h0_9])), (h1, .inr (0, [h1_0, h1_1, h1_2, h1_3, h1_4, .int bl]))] [] sz)) (va_Qi (fun (r : Int32) (_ : Unit) => r = v_layA bl) (fun (_ : Unit) (t : State) => ∃ (n_h1_layers : Int32), ((0 : Int) ≤ (n_h1_layers).toInt ∧ (n_h1_layers).toInt ≤ (12 : Int)) ∧ (n_h1_layers = v_layN bl) ∧ va_P (dC, dI) vwCl [(h0, .inr (11, [h0_0, .ref h1, h0_2, h0_3, h0_4, h0_5, h0_6, h0_7, h0_8, h0_9])), (h1, .inr (0, [h1_0, h1_1, h1_2, h1_3, h1_4, .int n_h1_layers]))] t.heap ∧ va_K (dC, dI) vwCl [] t ∧ va_D (va_A [(h0, .inr (11, [h0_0, .ref h1, h0_2, h0_3, h0_4, h0_5, h0_6, h0_7, h0_8, h0_9])), (h1, .inr (0, [h1_0, h1_1, h1_2, h1_3, h1_4, .int bl]))] sz) [(h0, .inr (11, [h0_0, .ref h1, h0_2, h0_3, h0_4, h0_5, h0_6, h0_7, h0_8, h0_9])), (h1, .inr (0, [h1_0, h1_1, h1_2, h1_3, h1_4, .int n_h1_layers]))]) (va_A [(h0, .inr (11, [h0_0, .ref h1, h0_2, h0_3, h0_4, h0_5, h0_6, h0_7, h0_8, h0_9])), (h1, .inr (0, [h1_0, h1_1, h1_2, h1_3, h1_4, .int bl]))] sz)) 0 0 (va_A [(h0, .inr (11, [h0_0, .ref h1, h0_2, h0_3, h0_4, h0_5, h0_6, h0_7, h0_8, h0_9])), (h1, .inr (0, [h1_0, h1_1, h1_2, h1_3, h1_4, .int bl]))] sz) := by
  refine Met.ofW (cc := cX11_layer) (maxL := 1) (ret := (some .int)) (by decide) rfl ?_
  intro p e s m args below meth c s₁ B hml hv
  obtain ⟨rfl, hsz, hP, hK, hD0⟩ := hv
  have hx := B.exec
  have hb := B.bytes
  have hr := B.returns
  have hts := atoms_spec (ws := u_s_X11_layerA) B.pre
  have hown : s.vm.findClass RX11 = some m.cls := findClass_of_methodNamed B.named
  have hlocks := B.notSynchronized
  subst hsz
  have hD := hD0.self (sz := s.heap.size)
  generalize hAe : va_A [(h0, .inr (11, [h0_0, .ref h1, h0_2, h0_3, h0_4, h0_5, h0_6, h0_7, h0_8, h0_9])), (h1, .inr (0, [h1_0, h1_1, h1_2, h1_3, h1_4, .int bl]))] s.heap.size = A at hD ⊢
  have hA : ∀ q : Nat, s.heap.size ≤ q → A q := fun q h => by rw [← hAe]; exact Or.inr h
  have hS : va_S A s.heap s.heap [] := va_S.rf
  have hP : va_P (dC, dI) vwCl [(h0, .inr (11, [h0_0, .ref h1, h0_2, h0_3, h0_4, h0_5, h0_6, h0_7, h0_8, h0_9])), (h1, .inr (0, [h1_0, h1_1, h1_2, h1_3, h1_4, .int bl]))] s.heap := hP
  have w__fieldLink_RX11_19_ShellHeap_book_LShellHeap_Book_ := hts (.fieldLink RX11 19 "ShellHeap" "book" "LShellHeap$Book;") (by decide +kernel)
  have hiX11 := show ∀ w ∈ u_ws RX11 TX11 10, w ∈ u_s_X11_layerA by decide +kernel
  have w__fieldLink_RX11_137_ShellHeap_Book_layers_I_ := hts (.fieldLink RX11 137 "ShellHeap$Book" "layers" "I") (by decide +kernel)
  have hiX0 := show ∀ w ∈ u_ws RX0 TX0 6, w ∈ u_s_X11_layerA by decide +kernel
  have hl := lv_entry ([.ref h0]) (n := 1) (Nat.le_of_ble_eq_true rfl)
  rw [lg_entry_eq]
  generalize (lg_sl ([.ref h0]) ++ List.replicate (1 - (lg_sl ([.ref h0])).length) Slot.unset).toArray = ls at hl ⊢
  have hl : lv_has ls 1 [(0, .ref h0)] := hl
  refine lv_aload_n hx hb dX11_layer_0 rfl (lv_at hl 0 rfl) ?_
  refine va_get (D := (dC, dI)) (ci := 11) (v := .ref h1) (C := RX11) (T := TX11) (N := 10) hx hb hts hiX11 hown hK hP 0 rfl rfl 1 (by decide) w__fieldLink_RX11_19_ShellHeap_book_LShellHeap_Book_ (fun _ h9 => h9) rfl dX11_layer_1 ?_
  refine va_get (D := (dC, dI)) (ci := 0) (v := .int bl) (C := RX0) (T := TX0) (N := 6) hx hb hts hiX0 hown hK hP 1 rfl rfl 5 (by decide) w__fieldLink_RX11_137_ShellHeap_Book_layers_I_ (fun _ h9 => h9) rfl dX11_layer_4 ?_
  refine lv_bipush (v := 12) hx hb dX11_layer_7 (by decide) ?_
  refine lv_icmp_lt (tgt := 14) hx hb dX11_layer_9 (by decide) (fun c_1 => ?_) (fun c_1 => ?_)
  · have k_2 : (bl).toInt < (12 : Int) := z_lt c_1
    refine lv_aload_n hx hb dX11_layer_14 rfl (lv_at hl 0 rfl) ?_
    refine va_get (D := (dC, dI)) (ci := 11) (v := .ref h1) (C := RX11) (T := TX11) (N := 10) hx hb hts hiX11 hown hK hP 0 rfl rfl 1 (by decide) w__fieldLink_RX11_19_ShellHeap_book_LShellHeap_Book_ (fun _ h9 => h9) rfl dX11_layer_15 ?_
    refine lv_dup hx hb dX11_layer_18 rfl ?_
    refine va_get (D := (dC, dI)) (ci := 0) (v := .int bl) (C := RX0) (T := TX0) (N := 6) hx hb hts hiX0 hown hK hP 1 rfl rfl 5 (by decide) w__fieldLink_RX11_137_ShellHeap_Book_layers_I_ (fun _ h9 => h9) rfl dX11_layer_19 ?_
    refine lv_iconst (v := 1) hx hb dX11_layer_22 (by decide) ?_
    refine lv_iadd hx hb dX11_layer_23 ?_
    refine lv_topi (fun z_3 ez_3 => ?_)
    have kz_3 : (z_3).toInt = (bl).toInt + (1 : Int) := by rw [ez_3]; exact z_add (a := (bl).toInt) (b := (1 : Int)) rfl rfl (by omega) (by omega)
    refine va_put (D := (dC, dI)) (ci := 0) (v := .int z_3) (ty := .int) (C := RX0) (T := TX0) (N := 6) hx hb hts hiX0 tyX0 tyX0_ok nmX0 hown hK hP hD hS 1 rfl rfl 5 (by decide) w__fieldLink_RX11_137_ShellHeap_Book_layers_I_ (fun _ h9 => h9) rfl (by decide +kernel) rfl rfl (Nat.le_of_ble_eq_true rfl) dX11_layer_24 (fun H_4 locs hP hD hS => ?_)
    have hP : va_P (dC, dI) vwCl [(h0, .inr (11, [h0_0, .ref h1, h0_2, h0_3, h0_4, h0_5, h0_6, h0_7, h0_8, h0_9])), (h1, .inr (0, [h1_0, h1_1, h1_2, h1_3, h1_4, .int z_3]))] H_4 := hP
    have hD : va_D A [(h0, .inr (11, [h0_0, .ref h1, h0_2, h0_3, h0_4, h0_5, h0_6, h0_7, h0_8, h0_9])), (h1, .inr (0, [h1_0, h1_1, h1_2, h1_3, h1_4, .int z_3]))] := hD
    refine lv_aload_n hx hb dX11_layer_27 rfl (lv_at hl 0 rfl) ?_
    refine va_get (D := (dC, dI)) (ci := 11) (v := .ref h1) (C := RX11) (T := TX11) (N := 10) hx hb hts hiX11 hown hK hP 0 rfl rfl 1 (by decide) w__fieldLink_RX11_19_ShellHeap_book_LShellHeap_Book_ (fun _ h9 => h9) rfl dX11_layer_28 ?_
    refine va_get (D := (dC, dI)) (ci := 0) (v := .int z_3) (C := RX0) (T := TX0) (N := 6) hx hb hts hiX0 hown hK hP 1 rfl rfl 5 (by decide) w__fieldLink_RX11_137_ShellHeap_Book_layers_I_ (fun _ h9 => h9) rfl dX11_layer_31 ?_
    refine lv_iconst (v := 1) hx hb dX11_layer_34 (by decide) ?_
    refine lv_isub hx hb dX11_layer_35 ?_
    refine lv_topi (fun z_5 ez_5 => ?_)
    have kz_5 : (z_5).toInt = (z_3).toInt - (1 : Int) := by rw [ez_5]; exact z_sub (a := (z_3).toInt) (b := (1 : Int)) rfl rfl (by omega) (by omega)
    have hP9 := hP.sub (ws' := [(h0, .inr (11, [h0_0, .ref h1, h0_2, h0_3, h0_4, h0_5, h0_6, h0_7, h0_8, h0_9])), (h1, .inr (0, [h1_0, h1_1, h1_2, h1_3, h1_4, .int z_3]))]) [0, 1] rfl
    have hD9 := hD.sub (ws' := [(h0, .inr (11, [h0_0, .ref h1, h0_2, h0_3, h0_4, h0_5, h0_6, h0_7, h0_8, h0_9])), (h1, .inr (0, [h1_0, h1_1, h1_2, h1_3, h1_4, .int z_3]))]) [0, 1] (by decide) rfl
    have hK9 := hK.sub (tys' := []) [] rfl
    refine W.widen (k := 0) (n := 0) (Nat.le_of_ble_eq_true rfl) (Nat.le_of_ble_eq_true rfl) ?_
    exact W.iret (v := z_5) hx hb hr (fun t ht hW => ⟨⟨z_5, (), rfl, (show z_5 = v_layA bl by unfold v_layA; rw [if_pos (by omega)]; first | exact ez_5 | exact z_ii (by omega)), ⟨z_3, (by first | omega | decide), (show z_3 = v_layN bl by unfold v_layN; rw [if_pos (by omega)]; exact ez_3), by rw [ht]; exact hP9, va_K.moved hW.alike hK9, hD9⟩⟩, hS.F ht⟩) hS.2.2 dX11_layer_36
  · have k_6 : (bl).toInt ≥ (12 : Int) := z_nlt c_1
    refine lv_iconst (v := (-1)) hx hb dX11_layer_12 (by decide) ?_
    have hP9 := hP.sub (ws' := [(h0, .inr (11, [h0_0, .ref h1, h0_2, h0_3, h0_4, h0_5, h0_6, h0_7, h0_8, h0_9])), (h1, .inr (0, [h1_0, h1_1, h1_2, h1_3, h1_4, .int bl]))]) [0, 1] rfl
    have hD9 := hD.sub (ws' := [(h0, .inr (11, [h0_0, .ref h1, h0_2, h0_3, h0_4, h0_5, h0_6, h0_7, h0_8, h0_9])), (h1, .inr (0, [h1_0, h1_1, h1_2, h1_3, h1_4, .int bl]))]) [0, 1] (by decide) rfl
    have hK9 := hK.sub (tys' := []) [] rfl
    refine W.widen (k := 0) (n := 0) (Nat.le_of_ble_eq_true rfl) (Nat.le_of_ble_eq_true rfl) ?_
    exact W.iret (v := (-1)) hx hb hr (fun t ht hW => ⟨⟨(-1), (), rfl, (show (-1) = v_layA bl by unfold v_layA; rw [if_neg (by omega)]), ⟨bl, (by first | omega | decide), (show bl = v_layN bl by unfold v_layN; rw [if_neg (by omega)]), by rw [ht]; exact hP9, va_K.moved hW.alike hK9, hD9⟩⟩, hS.F ht⟩) hS.2.2 dX11_layer_13
def u_s_X12_layerA : List Cond := .code yX12_layer cX12_layer 1 (some .int) :: ([.fieldLink RX12 145 "ShellHeapModel" "thrown" "I", .fieldLink RX12 151 "ShellHeapModel" "layers" "I"] ++ wsX120)
set_option maxHeartbeats 4000000 in
set_option maxRecDepth 100000 in
theorem s_X12_layerA (l : Launch) (dC : Nat → ClassId) (dI : Nat → Nat → Nat) (sz : Nat) (h0 : Nat) (h0_0 : Value) (h0_1 : Value) (mx : Int32) (ml : Int32) (h0_4 : Value) (h0_5 : Value) (h0_6 : Value) (h0_7 : Value) (h0_8 : Value) (h0_9 : Value) (h0_10 : Value) (h0_11 : Value) (h0_12 : Value) (h0_13 : Value) (h0_14 : Value) (h0_15 : Value) (h0_16 : Value) (h0_17 : Value) (h0_18 : Value) (h0_19 : Value) (h0_20 : Value) (h0_21 : Value) (h0_22 : Value) (h0_23 : Value) (h0_24 : Value) (h0_25 : Value) (h0_26 : Value) (h0_27 : Value) (h0_28 : Value) (h0_29 : Value) (h0_30 : Value) (h0_31 : Value) (h0_32 : Value) (h0_33 : Value) (h0_34 : Value) (h0_35 : Value) (h0_36 : Value) (h0_37 : Value) (h0_38 : Value) (h0_39 : Value) (h0_40 : Value) (h0_41 : Value) (h0_42 : Value) (h0_43 : Value) (h0_44 : Value) (h0_45 : Value) (h0_46 : Value) (h0_47 : Value) (h0_48 : Value) (h0_49 : Value) (h0_50 : Value) (h0_51 : Value) (h0_52 : Value) (h0_53 : Value) (h0_54 : Value) (h0_55 : Value) (h0_56 : Value) (h0_57 : Value) (h0_58 : Value) (h0_59 : Value) (h0_60 : Value) (h0_61 : Value) (h0_62 : Value) (h0_63 : Value) (h0_64 : Value) (h0_65 : Value) (h0_66 : Value) (h0_67 : Value) (h0_68 : Value) (h0_69 : Value) (hB_ml : ((0 : Int) ≤ (ml).toInt ∧ (ml).toInt ≤ (12 : Int))) : Met l yX12_layer u_s_X12_layerA ({ frames := 0, cells := 0, slots := 0, locals := 0 }) (va_Pc [.ref h0] (z_C (dC, dI) vwCl [(h0, .inr (12, [h0_0, h0_1, .int mx, .int ml, h0_4, h0_5, h0_6, h0_7, h0_8, h0_9, h0_10, h0_11, h0_12, h0_13, h0_14, h0_15, h0_16, h0_17, h0_18, h0_19, h0_20, h0_21, h0_22, h0_23, h0_24, h0_25, h0_26, h0_27, h0_28, h0_29, h0_30, h0_31, h0_32, h0_33, h0_34, h0_35, h0_36, h0_37, h0_38, h0_39, h0_40, h0_41, h0_42, h0_43, h0_44, h0_45, h0_46, h0_47, h0_48, h0_49, h0_50, h0_51, h0_52, h0_53, h0_54, h0_55, h0_56, h0_57, h0_58, h0_59, h0_60, h0_61, h0_62, h0_63, h0_64, h0_65, h0_66, h0_67, h0_68, h0_69]))] [] sz)) (va_Qi (fun (r : Int32) (_ : Unit) => r = v_layA ml) (fun (_ : Unit) (t : State) => ∃ (n_h0_thrown : Int32), ∃ (n_h0_layers : Int32), ((0 : Int) ≤ (n_h0_layers).toInt ∧ (n_h0_layers).toInt ≤ (12 : Int)) ∧ (n_h0_layers = v_layN ml) ∧ va_P (dC, dI) vwCl [(h0, .inr (12, [h0_0, h0_1, .int n_h0_thrown, .int n_h0_layers, h0_4, h0_5, h0_6, h0_7, h0_8, h0_9, h0_10, h0_11, h0_12, h0_13, h0_14, h0_15, h0_16, h0_17, h0_18, h0_19, h0_20, h0_21, h0_22, h0_23, h0_24, h0_25, h0_26, h0_27, h0_28, h0_29, h0_30, h0_31, h0_32, h0_33, h0_34, h0_35, h0_36, h0_37, h0_38, h0_39, h0_40, h0_41, h0_42, h0_43, h0_44, h0_45, h0_46, h0_47, h0_48, h0_49, h0_50, h0_51, h0_52, h0_53, h0_54, h0_55, h0_56, h0_57, h0_58, h0_59, h0_60, h0_61, h0_62, h0_63, h0_64, h0_65, h0_66, h0_67, h0_68, h0_69]))] t.heap ∧ va_K (dC, dI) vwCl [] t ∧ va_D (va_A [(h0, .inr (12, [h0_0, h0_1, .int mx, .int ml, h0_4, h0_5, h0_6, h0_7, h0_8, h0_9, h0_10, h0_11, h0_12, h0_13, h0_14, h0_15, h0_16, h0_17, h0_18, h0_19, h0_20, h0_21, h0_22, h0_23, h0_24, h0_25, h0_26, h0_27, h0_28, h0_29, h0_30, h0_31, h0_32, h0_33, h0_34, h0_35, h0_36, h0_37, h0_38, h0_39, h0_40, h0_41, h0_42, h0_43, h0_44, h0_45, h0_46, h0_47, h0_48, h0_49, h0_50, h0_51, h0_52, h0_53, h0_54, h0_55, h0_56, h0_57, h0_58, h0_59, h0_60, h0_61, h0_62, h0_63, h0_64, h0_65, h0_66, h0_67, h0_68, h0_69]))] sz) [(h0, .inr (12, [h0_0, h0_1, .int n_h0_thrown, .int n_h0_layers, h0_4, h0_5, h0_6, h0_7, h0_8, h0_9, h0_10, h0_11, h0_12, h0_13, h0_14, h0_15, h0_16, h0_17, h0_18, h0_19, h0_20, h0_21, h0_22, h0_23, h0_24, h0_25, h0_26, h0_27, h0_28, h0_29, h0_30, h0_31, h0_32, h0_33, h0_34, h0_35, h0_36, h0_37, h0_38, h0_39, h0_40, h0_41, h0_42, h0_43, h0_44, h0_45, h0_46, h0_47, h0_48, h0_49, h0_50, h0_51, h0_52, h0_53, h0_54, h0_55, h0_56, h0_57, h0_58, h0_59, h0_60, h0_61, h0_62, h0_63, h0_64, h0_65, h0_66, h0_67, h0_68, h0_69]))]) (va_A [(h0, .inr (12, [h0_0, h0_1, .int mx, .int ml, h0_4, h0_5, h0_6, h0_7, h0_8, h0_9, h0_10, h0_11, h0_12, h0_13, h0_14, h0_15, h0_16, h0_17, h0_18, h0_19, h0_20, h0_21, h0_22, h0_23, h0_24, h0_25, h0_26, h0_27, h0_28, h0_29, h0_30, h0_31, h0_32, h0_33, h0_34, h0_35, h0_36, h0_37, h0_38, h0_39, h0_40, h0_41, h0_42, h0_43, h0_44, h0_45, h0_46, h0_47, h0_48, h0_49, h0_50, h0_51, h0_52, h0_53, h0_54, h0_55, h0_56, h0_57, h0_58, h0_59, h0_60, h0_61, h0_62, h0_63, h0_64, h0_65, h0_66, h0_67, h0_68, h0_69]))] sz)) 0 0 (va_A [(h0, .inr (12, [h0_0, h0_1, .int mx, .int ml, h0_4, h0_5, h0_6, h0_7, h0_8, h0_9, h0_10, h0_11, h0_12, h0_13, h0_14, h0_15, h0_16, h0_17, h0_18, h0_19, h0_20, h0_21, h0_22, h0_23, h0_24, h0_25, h0_26, h0_27, h0_28, h0_29, h0_30, h0_31, h0_32, h0_33, h0_34, h0_35, h0_36, h0_37, h0_38, h0_39, h0_40, h0_41, h0_42, h0_43, h0_44, h0_45, h0_46, h0_47, h0_48, h0_49, h0_50, h0_51, h0_52, h0_53, h0_54, h0_55, h0_56, h0_57, h0_58, h0_59, h0_60, h0_61, h0_62, h0_63, h0_64, h0_65, h0_66, h0_67, h0_68, h0_69]))] sz) := by
  refine Met.ofW (cc := cX12_layer) (maxL := 1) (ret := (some .int)) (by decide) rfl ?_
  intro p e s m args below meth c s₁ B hml hv
  obtain ⟨rfl, hsz, hP, hK, hD0⟩ := hv
  have hx := B.exec
  have hb := B.bytes
  have hr := B.returns
  have hts := atoms_spec (ws := u_s_X12_layerA) B.pre
  have hown : s.vm.findClass RX12 = some m.cls := findClass_of_methodNamed B.named
  have hlocks := B.notSynchronized
  subst hsz
  have hD := hD0.self (sz := s.heap.size)
  generalize hAe : va_A [(h0, .inr (12, [h0_0, h0_1, .int mx, .int ml, h0_4, h0_5, h0_6, h0_7, h0_8, h0_9, h0_10, h0_11, h0_12, h0_13, h0_14, h0_15, h0_16, h0_17, h0_18, h0_19, h0_20, h0_21, h0_22, h0_23, h0_24, h0_25, h0_26, h0_27, h0_28, h0_29, h0_30, h0_31, h0_32, h0_33, h0_34, h0_35, h0_36, h0_37, h0_38, h0_39, h0_40, h0_41, h0_42, h0_43, h0_44, h0_45, h0_46, h0_47, h0_48, h0_49, h0_50, h0_51, h0_52, h0_53, h0_54, h0_55, h0_56, h0_57, h0_58, h0_59, h0_60, h0_61, h0_62, h0_63, h0_64, h0_65, h0_66, h0_67, h0_68, h0_69]))] s.heap.size = A at hD ⊢
  have hA : ∀ q : Nat, s.heap.size ≤ q → A q := fun q h => by rw [← hAe]; exact Or.inr h
  have hS : va_S A s.heap s.heap [] := va_S.rf
  have hP : va_P (dC, dI) vwCl [(h0, .inr (12, [h0_0, h0_1, .int mx, .int ml, h0_4, h0_5, h0_6, h0_7, h0_8, h0_9, h0_10, h0_11, h0_12, h0_13, h0_14, h0_15, h0_16, h0_17, h0_18, h0_19, h0_20, h0_21, h0_22, h0_23, h0_24, h0_25, h0_26, h0_27, h0_28, h0_29, h0_30, h0_31, h0_32, h0_33, h0_34, h0_35, h0_36, h0_37, h0_38, h0_39, h0_40, h0_41, h0_42, h0_43, h0_44, h0_45, h0_46, h0_47, h0_48, h0_49, h0_50, h0_51, h0_52, h0_53, h0_54, h0_55, h0_56, h0_57, h0_58, h0_59, h0_60, h0_61, h0_62, h0_63, h0_64, h0_65, h0_66, h0_67, h0_68, h0_69]))] s.heap := hP
  have w__fieldLink_RX12_145_ShellHeapModel_thrown_I_ := hts (.fieldLink RX12 145 "ShellHeapModel" "thrown" "I") (by decide +kernel)
  have hiX12 := show ∀ w ∈ u_ws RX12 TX12 70, w ∈ u_s_X12_layerA by decide +kernel
  have w__fieldLink_RX12_151_ShellHeapModel_layers_I_ := hts (.fieldLink RX12 151 "ShellHeapModel" "layers" "I") (by decide +kernel)
  have hl := lv_entry ([.ref h0]) (n := 1) (Nat.le_of_ble_eq_true rfl)
  rw [lg_entry_eq]
  generalize (lg_sl ([.ref h0]) ++ List.replicate (1 - (lg_sl ([.ref h0])).length) Slot.unset).toArray = ls at hl ⊢
  have hl : lv_has ls 1 [(0, .ref h0)] := hl
  refine lv_aload_n hx hb dX12_layer_0 rfl (lv_at hl 0 rfl) ?_
  refine lv_iconst (v := 0) hx hb dX12_layer_1 (by decide) ?_
  refine va_put (D := (dC, dI)) (ci := 12) (v := .int 0) (ty := .int) (C := RX12) (T := TX12) (N := 70) hx hb hts hiX12 tyX12 tyX12_ok nmX12 hown hK hP hD hS 0 rfl rfl 2 (by decide) w__fieldLink_RX12_145_ShellHeapModel_thrown_I_ (fun _ h9 => h9) rfl (by decide +kernel) rfl rfl (Nat.le_of_ble_eq_true rfl) dX12_layer_2 (fun H_1 locs hP hD hS => ?_)
  have hP : va_P (dC, dI) vwCl [(h0, .inr (12, [h0_0, h0_1, .int 0, .int ml, h0_4, h0_5, h0_6, h0_7, h0_8, h0_9, h0_10, h0_11, h0_12, h0_13, h0_14, h0_15, h0_16, h0_17, h0_18, h0_19, h0_20, h0_21, h0_22, h0_23, h0_24, h0_25, h0_26, h0_27, h0_28, h0_29, h0_30, h0_31, h0_32, h0_33, h0_34, h0_35, h0_36, h0_37, h0_38, h0_39, h0_40, h0_41, h0_42, h0_43, h0_44, h0_45, h0_46, h0_47, h0_48, h0_49, h0_50, h0_51, h0_52, h0_53, h0_54, h0_55, h0_56, h0_57, h0_58, h0_59, h0_60, h0_61, h0_62, h0_63, h0_64, h0_65, h0_66, h0_67, h0_68, h0_69]))] H_1 := hP
  have hD : va_D A [(h0, .inr (12, [h0_0, h0_1, .int 0, .int ml, h0_4, h0_5, h0_6, h0_7, h0_8, h0_9, h0_10, h0_11, h0_12, h0_13, h0_14, h0_15, h0_16, h0_17, h0_18, h0_19, h0_20, h0_21, h0_22, h0_23, h0_24, h0_25, h0_26, h0_27, h0_28, h0_29, h0_30, h0_31, h0_32, h0_33, h0_34, h0_35, h0_36, h0_37, h0_38, h0_39, h0_40, h0_41, h0_42, h0_43, h0_44, h0_45, h0_46, h0_47, h0_48, h0_49, h0_50, h0_51, h0_52, h0_53, h0_54, h0_55, h0_56, h0_57, h0_58, h0_59, h0_60, h0_61, h0_62, h0_63, h0_64, h0_65, h0_66, h0_67, h0_68, h0_69]))] := hD
  refine lv_aload_n hx hb dX12_layer_5 rfl (lv_at hl 0 rfl) ?_
  refine va_get (D := (dC, dI)) (ci := 12) (v := .int ml) (C := RX12) (T := TX12) (N := 70) hx hb hts hiX12 hown hK hP 0 rfl rfl 3 (by decide) w__fieldLink_RX12_151_ShellHeapModel_layers_I_ (fun _ h9 => h9) rfl dX12_layer_6 ?_
  refine lv_bipush (v := 12) hx hb dX12_layer_9 (by decide) ?_
  refine lv_icmp_ne (tgt := 16) hx hb dX12_layer_11 (by decide) (fun c_2 => ?_) (fun c_2 => ?_)
  · have k_3 : (ml).toInt ≠ (12 : Int) := z_ne c_2
    refine lv_aload_n hx hb dX12_layer_16 rfl (lv_at hl 0 rfl) ?_
    refine lv_dup hx hb dX12_layer_17 rfl ?_
    refine va_get (D := (dC, dI)) (ci := 12) (v := .int ml) (C := RX12) (T := TX12) (N := 70) hx hb hts hiX12 hown hK hP 0 rfl rfl 3 (by decide) w__fieldLink_RX12_151_ShellHeapModel_layers_I_ (fun _ h9 => h9) rfl dX12_layer_18 ?_
    refine lv_iconst (v := 1) hx hb dX12_layer_21 (by decide) ?_
    refine lv_iadd hx hb dX12_layer_22 ?_
    refine lv_topi (fun z_4 ez_4 => ?_)
    have kz_4 : (z_4).toInt = (ml).toInt + (1 : Int) := by rw [ez_4]; exact z_add (a := (ml).toInt) (b := (1 : Int)) rfl rfl (by omega) (by omega)
    refine va_put (D := (dC, dI)) (ci := 12) (v := .int z_4) (ty := .int) (C := RX12) (T := TX12) (N := 70) hx hb hts hiX12 tyX12 tyX12_ok nmX12 hown hK hP hD hS 0 rfl rfl 3 (by decide) w__fieldLink_RX12_151_ShellHeapModel_layers_I_ (fun _ h9 => h9) rfl (by decide +kernel) rfl rfl (Nat.le_of_ble_eq_true rfl) dX12_layer_23 (fun H_5 locs hP hD hS => ?_)
    have hP : va_P (dC, dI) vwCl [(h0, .inr (12, [h0_0, h0_1, .int 0, .int z_4, h0_4, h0_5, h0_6, h0_7, h0_8, h0_9, h0_10, h0_11, h0_12, h0_13, h0_14, h0_15, h0_16, h0_17, h0_18, h0_19, h0_20, h0_21, h0_22, h0_23, h0_24, h0_25, h0_26, h0_27, h0_28, h0_29, h0_30, h0_31, h0_32, h0_33, h0_34, h0_35, h0_36, h0_37, h0_38, h0_39, h0_40, h0_41, h0_42, h0_43, h0_44, h0_45, h0_46, h0_47, h0_48, h0_49, h0_50, h0_51, h0_52, h0_53, h0_54, h0_55, h0_56, h0_57, h0_58, h0_59, h0_60, h0_61, h0_62, h0_63, h0_64, h0_65, h0_66, h0_67, h0_68, h0_69]))] H_5 := hP
    have hD : va_D A [(h0, .inr (12, [h0_0, h0_1, .int 0, .int z_4, h0_4, h0_5, h0_6, h0_7, h0_8, h0_9, h0_10, h0_11, h0_12, h0_13, h0_14, h0_15, h0_16, h0_17, h0_18, h0_19, h0_20, h0_21, h0_22, h0_23, h0_24, h0_25, h0_26, h0_27, h0_28, h0_29, h0_30, h0_31, h0_32, h0_33, h0_34, h0_35, h0_36, h0_37, h0_38, h0_39, h0_40, h0_41, h0_42, h0_43, h0_44, h0_45, h0_46, h0_47, h0_48, h0_49, h0_50, h0_51, h0_52, h0_53, h0_54, h0_55, h0_56, h0_57, h0_58, h0_59, h0_60, h0_61, h0_62, h0_63, h0_64, h0_65, h0_66, h0_67, h0_68, h0_69]))] := hD
    refine lv_aload_n hx hb dX12_layer_26 rfl (lv_at hl 0 rfl) ?_
    refine va_get (D := (dC, dI)) (ci := 12) (v := .int z_4) (C := RX12) (T := TX12) (N := 70) hx hb hts hiX12 hown hK hP 0 rfl rfl 3 (by decide) w__fieldLink_RX12_151_ShellHeapModel_layers_I_ (fun _ h9 => h9) rfl dX12_layer_27 ?_
    refine lv_iconst (v := 1) hx hb dX12_layer_30 (by decide) ?_
    refine lv_isub hx hb dX12_layer_31 ?_
    refine lv_topi (fun z_6 ez_6 => ?_)
    have kz_6 : (z_6).toInt = (z_4).toInt - (1 : Int) := by rw [ez_6]; exact z_sub (a := (z_4).toInt) (b := (1 : Int)) rfl rfl (by omega) (by omega)
    have hP9 := hP.sub (ws' := [(h0, .inr (12, [h0_0, h0_1, .int 0, .int z_4, h0_4, h0_5, h0_6, h0_7, h0_8, h0_9, h0_10, h0_11, h0_12, h0_13, h0_14, h0_15, h0_16, h0_17, h0_18, h0_19, h0_20, h0_21, h0_22, h0_23, h0_24, h0_25, h0_26, h0_27, h0_28, h0_29, h0_30, h0_31, h0_32, h0_33, h0_34, h0_35, h0_36, h0_37, h0_38, h0_39, h0_40, h0_41, h0_42, h0_43, h0_44, h0_45, h0_46, h0_47, h0_48, h0_49, h0_50, h0_51, h0_52, h0_53, h0_54, h0_55, h0_56, h0_57, h0_58, h0_59, h0_60, h0_61, h0_62, h0_63, h0_64, h0_65, h0_66, h0_67, h0_68, h0_69]))]) [0] rfl
    have hD9 := hD.sub (ws' := [(h0, .inr (12, [h0_0, h0_1, .int 0, .int z_4, h0_4, h0_5, h0_6, h0_7, h0_8, h0_9, h0_10, h0_11, h0_12, h0_13, h0_14, h0_15, h0_16, h0_17, h0_18, h0_19, h0_20, h0_21, h0_22, h0_23, h0_24, h0_25, h0_26, h0_27, h0_28, h0_29, h0_30, h0_31, h0_32, h0_33, h0_34, h0_35, h0_36, h0_37, h0_38, h0_39, h0_40, h0_41, h0_42, h0_43, h0_44, h0_45, h0_46, h0_47, h0_48, h0_49, h0_50, h0_51, h0_52, h0_53, h0_54, h0_55, h0_56, h0_57, h0_58, h0_59, h0_60, h0_61, h0_62, h0_63, h0_64, h0_65, h0_66, h0_67, h0_68, h0_69]))]) [0] (by decide) rfl
    have hK9 := hK.sub (tys' := []) [] rfl
    refine W.widen (k := 0) (n := 0) (Nat.le_of_ble_eq_true rfl) (Nat.le_of_ble_eq_true rfl) ?_
    exact W.iret (v := z_6) hx hb hr (fun t ht hW => ⟨⟨z_6, (), rfl, (show z_6 = v_layA ml by unfold v_layA; rw [if_pos (by omega)]; first | exact ez_6 | exact z_ii (by omega)), ⟨0, z_4, (by first | omega | decide), (show z_4 = v_layN ml by unfold v_layN; rw [if_pos (by omega)]; exact ez_4), by rw [ht]; exact hP9, va_K.moved hW.alike hK9, hD9⟩⟩, hS.F ht⟩) hS.2.2 dX12_layer_32
  · have k_7 : (ml).toInt = (12 : Int) := z_eq c_2
    refine lv_iconst (v := (-1)) hx hb dX12_layer_14 (by decide) ?_
    have hP9 := hP.sub (ws' := [(h0, .inr (12, [h0_0, h0_1, .int 0, .int ml, h0_4, h0_5, h0_6, h0_7, h0_8, h0_9, h0_10, h0_11, h0_12, h0_13, h0_14, h0_15, h0_16, h0_17, h0_18, h0_19, h0_20, h0_21, h0_22, h0_23, h0_24, h0_25, h0_26, h0_27, h0_28, h0_29, h0_30, h0_31, h0_32, h0_33, h0_34, h0_35, h0_36, h0_37, h0_38, h0_39, h0_40, h0_41, h0_42, h0_43, h0_44, h0_45, h0_46, h0_47, h0_48, h0_49, h0_50, h0_51, h0_52, h0_53, h0_54, h0_55, h0_56, h0_57, h0_58, h0_59, h0_60, h0_61, h0_62, h0_63, h0_64, h0_65, h0_66, h0_67, h0_68, h0_69]))]) [0] rfl
    have hD9 := hD.sub (ws' := [(h0, .inr (12, [h0_0, h0_1, .int 0, .int ml, h0_4, h0_5, h0_6, h0_7, h0_8, h0_9, h0_10, h0_11, h0_12, h0_13, h0_14, h0_15, h0_16, h0_17, h0_18, h0_19, h0_20, h0_21, h0_22, h0_23, h0_24, h0_25, h0_26, h0_27, h0_28, h0_29, h0_30, h0_31, h0_32, h0_33, h0_34, h0_35, h0_36, h0_37, h0_38, h0_39, h0_40, h0_41, h0_42, h0_43, h0_44, h0_45, h0_46, h0_47, h0_48, h0_49, h0_50, h0_51, h0_52, h0_53, h0_54, h0_55, h0_56, h0_57, h0_58, h0_59, h0_60, h0_61, h0_62, h0_63, h0_64, h0_65, h0_66, h0_67, h0_68, h0_69]))]) [0] (by decide) rfl
    have hK9 := hK.sub (tys' := []) [] rfl
    refine W.widen (k := 0) (n := 0) (Nat.le_of_ble_eq_true rfl) (Nat.le_of_ble_eq_true rfl) ?_
    exact W.iret (v := (-1)) hx hb hr (fun t ht hW => ⟨⟨(-1), (), rfl, (show (-1) = v_layA ml by unfold v_layA; rw [if_neg (by omega)]), ⟨0, ml, (by first | omega | decide), (show ml = v_layN ml by unfold v_layN; rw [if_neg (by omega)]), by rw [ht]; exact hP9, va_K.moved hW.alike hK9, hD9⟩⟩, hS.F ht⟩) hS.2.2 dX12_layer_15
