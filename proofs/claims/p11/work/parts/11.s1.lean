def u_s_X0_hasLayer : List Cond := .code yX0_hasLayer cX0_hasLayer 2 (some .boolean) :: ([.fieldLink RX0 28 "ShellHeap$Book" "layers" "I"] ++ (wsX00 ++ []))
theorem gd_s_X0_hasLayer : z_gd u_s_X0_hasLayer := z_gdc (by decide +kernel) (z_gda gdX0 (z_gd0))
set_option maxHeartbeats 4000000 in
set_option maxRecDepth 100000 in
theorem s_X0_hasLayer (l : Launch) (dC : Nat → ClassId) (dI : Nat → Nat → Nat) (sz : Nat) (h0 : Nat) (p1 : Int32) (h0_0 : Value) (h0_1 : Value) (h0_2 : Value) (h0_3 : Value) (h0_4 : Value) (bl : Int32) (hB_bl : ((0 : Int) ≤ (bl).toInt ∧ (bl).toInt ≤ (12 : Int))) : Met l yX0_hasLayer u_s_X0_hasLayer ({ frames := 0, cells := 0, slots := 0, locals := 0 }) (va_Pc [.ref h0, .int p1] (z_C (dC, dI) vwCl [(h0, .inr (0, [h0_0, h0_1, h0_2, h0_3, h0_4, .int bl]))] [] sz)) (va_Qi (fun (r : Int32) (_ : Unit) => (r = 1 ∧ (0 ≤ p1.toInt ∧ p1.toInt < bl.toInt)) ∨ (r = 0 ∧ True)) (fun (_ : Unit) (_ : State) => True) (va_A [] sz)) 0 0 (va_A [] sz) := by
  refine Met.ofW (cc := cX0_hasLayer) (maxL := 2) (ret := (some .boolean)) (by decide) rfl ?_
  intro p e s m args below meth c s₁ B hml hv
  obtain ⟨rfl, hsz, hP, hK, hD0⟩ := hv
  have hx := B.exec
  have hb := B.bytes
  have hr := B.returns
  have hts := atoms_spec (ws := u_s_X0_hasLayer) B.pre
  have hown : s.vm.findClass RX0 = some m.cls := findClass_of_methodNamed B.named
  have hlocks := B.notSynchronized
  subst hsz
  have hD := hD0
  generalize hAe : va_A [] s.heap.size = A
  have hA : ∀ q : Nat, s.heap.size ≤ q → A q := fun q h => by rw [← hAe]; exact Or.inr h
  have hS : va_S A s.heap s.heap [] := va_S.rf
  have hP : va_P (dC, dI) vwCl [(h0, .inr (0, [h0_0, h0_1, h0_2, h0_3, h0_4, .int bl]))] s.heap := hP
  have w__fieldLink_RX0_28_ShellHeap_Book_layers_I_ := hts (.fieldLink RX0 28 "ShellHeap$Book" "layers" "I") (z_mc (z_ml z_m0))
  have hiX0 := show ∀ w ∈ u_ws RX0 TX0 6, w ∈ u_s_X0_hasLayer from fun w h => z_mc (z_mr (z_ml h))
  have krr_p1 := z_rng p1
  have hl := lv_entry ([.ref h0, .int p1]) (n := 2) (Nat.le_of_ble_eq_true rfl)
  rw [lg_entry_eq]
  generalize (lg_sl ([.ref h0, .int p1]) ++ List.replicate (2 - (lg_sl ([.ref h0, .int p1])).length) Slot.unset).toArray = ls at hl ⊢
  have hl : lv_has ls 2 [(0, .ref h0), (1, .int p1)] := hl
  refine lv_iload_n hx hb dX0_hasLayer_0 rfl (lv_at hl 1 rfl) ?_
  refine lv_if_lt (tgt := 16) hx hb dX0_hasLayer_1 (by decide) (fun c_1 => ?_) (fun c_1 => ?_)
  · have k_2 : (p1).toInt < (0 : Int) := z_lt c_1
    refine lv_iconst (v := 0) hx hb dX0_hasLayer_16 (by decide) ?_
    refine W.widen (k := 0) (n := 0) (Nat.le_of_ble_eq_true rfl) (Nat.le_of_ble_eq_true rfl) ?_
    exact W.zret (v := 0) hx hb hr (by rfl) (fun t ht hW => ⟨⟨0, (), rfl, (Or.inr (⟨rfl, by first | omega | decide⟩)), trivial⟩, hS.F ht⟩) hS.2.2 dX0_hasLayer_17
  · have k_3 : (p1).toInt ≥ (0 : Int) := z_nlt c_1
    refine lv_iload_n hx hb dX0_hasLayer_4 rfl (lv_at hl 1 rfl) ?_
    refine lv_aload_n hx hb dX0_hasLayer_5 rfl (lv_at hl 0 rfl) ?_
    refine va_get (D := (dC, dI)) (ci := 0) (v := .int bl) (C := RX0) (T := TX0) (N := 6) hx hb hts hiX0 hown hK hP 0 rfl rfl 5 (by decide) w__fieldLink_RX0_28_ShellHeap_Book_layers_I_ (fun _ h9 => h9) rfl dX0_hasLayer_6 ?_
    refine lv_icmp_ge (tgt := 16) hx hb dX0_hasLayer_9 (by decide) (fun c_4 => ?_) (fun c_4 => ?_)
    · have k_5 : (bl).toInt ≤ (p1).toInt := z_le c_4
      refine lv_iconst (v := 0) hx hb dX0_hasLayer_16 (by decide) ?_
      refine W.widen (k := 0) (n := 0) (Nat.le_of_ble_eq_true rfl) (Nat.le_of_ble_eq_true rfl) ?_
      exact W.zret (v := 0) hx hb hr (by rfl) (fun t ht hW => ⟨⟨0, (), rfl, (Or.inr (⟨rfl, by first | omega | decide⟩)), trivial⟩, hS.F ht⟩) hS.2.2 dX0_hasLayer_17
    · have k_6 : (bl).toInt > (p1).toInt := z_nle c_4
      refine lv_iconst (v := 1) hx hb dX0_hasLayer_12 (by decide) ?_
      refine lv_goto (tgt := 17) hx hb dX0_hasLayer_13 (by decide) ?_
      refine W.widen (k := 0) (n := 0) (Nat.le_of_ble_eq_true rfl) (Nat.le_of_ble_eq_true rfl) ?_
      exact W.zret (v := 1) hx hb hr (by rfl) (fun t ht hW => ⟨⟨1, (), rfl, (Or.inl (⟨rfl, by first | omega | decide⟩)), trivial⟩, hS.F ht⟩) hS.2.2 dX0_hasLayer_17
def u_s_X2_isSide : List Cond := .code yX2_isSide cX2_isSide 1 (some .boolean) :: ([] ++ [])
theorem gd_s_X2_isSide : z_gd u_s_X2_isSide := z_gdc (by decide +kernel) (z_gd0)
set_option maxHeartbeats 4000000 in
set_option maxRecDepth 100000 in
theorem s_X2_isSide (l : Launch) (dC : Nat → ClassId) (dI : Nat → Nat → Nat) (sz : Nat) (p0 : Int32) : Met l yX2_isSide u_s_X2_isSide ({ frames := 0, cells := 0, slots := 0, locals := 0 }) (va_Pc [.int p0] (z_C (dC, dI) vwCl [] [] sz)) (va_Qi (fun (r : Int32) (_ : Unit) => (r = 1 ∧ (2 ≤ p0.toInt ∧ p0.toInt ≤ 12)) ∨ (r = 0 ∧ True)) (fun (_ : Unit) (_ : State) => True) (va_A [] sz)) 0 0 (va_A [] sz) := by
  refine Met.ofW (cc := cX2_isSide) (maxL := 1) (ret := (some .boolean)) (by decide) rfl ?_
  intro p e s m args below meth c s₁ B hml hv
  obtain ⟨rfl, hsz, hP, hK, hD0⟩ := hv
  have hx := B.exec
  have hb := B.bytes
  have hr := B.returns
  have hts := atoms_spec (ws := u_s_X2_isSide) B.pre
  have hown : s.vm.findClass RX2 = some m.cls := findClass_of_methodNamed B.named
  have hlocks := B.notSynchronized
  subst hsz
  have hD := hD0
  generalize hAe : va_A [] s.heap.size = A
  have hA : ∀ q : Nat, s.heap.size ≤ q → A q := fun q h => by rw [← hAe]; exact Or.inr h
  have hS : va_S A s.heap s.heap [] := va_S.rf
  have hP : va_P (dC, dI) vwCl [] s.heap := hP
  have krr_p0 := z_rng p0
  have hl := lv_entry ([.int p0]) (n := 1) (Nat.le_of_ble_eq_true rfl)
  rw [lg_entry_eq]
  generalize (lg_sl ([.int p0]) ++ List.replicate (1 - (lg_sl ([.int p0])).length) Slot.unset).toArray = ls at hl ⊢
  have hl : lv_has ls 1 [(0, .int p0)] := hl
  refine lv_iload_n hx hb dX2_isSide_0 rfl (lv_at hl 0 rfl) ?_
  refine lv_iconst (v := 2) hx hb dX2_isSide_1 (by decide) ?_
  refine lv_icmp_lt (tgt := 15) hx hb dX2_isSide_2 (by decide) (fun c_1 => ?_) (fun c_1 => ?_)
  · have k_2 : (p0).toInt < (2 : Int) := z_lt c_1
    refine lv_iconst (v := 0) hx hb dX2_isSide_15 (by decide) ?_
    refine W.widen (k := 0) (n := 0) (Nat.le_of_ble_eq_true rfl) (Nat.le_of_ble_eq_true rfl) ?_
    exact W.zret (v := 0) hx hb hr (by rfl) (fun t ht hW => ⟨⟨0, (), rfl, (Or.inr (⟨rfl, by first | omega | decide⟩)), trivial⟩, hS.F ht⟩) hS.2.2 dX2_isSide_16
  · have k_3 : (p0).toInt ≥ (2 : Int) := z_nlt c_1
    refine lv_iload_n hx hb dX2_isSide_5 rfl (lv_at hl 0 rfl) ?_
    refine lv_bipush (v := 12) hx hb dX2_isSide_6 (by decide) ?_
    refine lv_icmp_gt (tgt := 15) hx hb dX2_isSide_8 (by decide) (fun c_4 => ?_) (fun c_4 => ?_)
    · have k_5 : (12 : Int) < (p0).toInt := z_lt c_4
      refine lv_iconst (v := 0) hx hb dX2_isSide_15 (by decide) ?_
      refine W.widen (k := 0) (n := 0) (Nat.le_of_ble_eq_true rfl) (Nat.le_of_ble_eq_true rfl) ?_
      exact W.zret (v := 0) hx hb hr (by rfl) (fun t ht hW => ⟨⟨0, (), rfl, (Or.inr (⟨rfl, by first | omega | decide⟩)), trivial⟩, hS.F ht⟩) hS.2.2 dX2_isSide_16
    · have k_6 : (12 : Int) ≥ (p0).toInt := z_nlt c_4
      refine lv_iconst (v := 1) hx hb dX2_isSide_11 (by decide) ?_
      refine lv_goto (tgt := 16) hx hb dX2_isSide_12 (by decide) ?_
      refine W.widen (k := 0) (n := 0) (Nat.le_of_ble_eq_true rfl) (Nat.le_of_ble_eq_true rfl) ?_
      exact W.zret (v := 1) hx hb hr (by rfl) (fun t ht hW => ⟨⟨1, (), rfl, (Or.inl (⟨rfl, by first | omega | decide⟩)), trivial⟩, hS.F ht⟩) hS.2.2 dX2_isSide_16
def u_s_X2_lay : List Cond := .code yX2_lay cX2_lay 3 (some .boolean) :: ([.methodLink RX2 46 yX2_isSide, .static yX2_isSide, .initialized RX2, .fieldLink RX2 9 "ShellHeap$Ground" "w" "I", .fieldLink RX2 15 "ShellHeap$Ground" "h" "I", .fieldLink RX2 34 "ShellHeap$Ground" "columns" "I"] ++ (wsX20 ++ (u_s_X2_isSide ++ [])))
theorem gd_s_X2_lay : z_gd u_s_X2_lay := z_gdc (by decide +kernel) (z_gda gdX2 (z_gda gd_s_X2_isSide (z_gd0)))
set_option maxRecDepth 20000 in
theorem gw_s_X2_lay_s_X2_isSide_46 : GoodIn u_s_X2_lay (va_wsS RX2 46 yX2_isSide u_s_X2_isSide) := z_gS (z_gr _ [1, 2, 3] rfl (by decide +kernel)) (fun w h => ⟨z_mc (z_mr (z_mr (z_ml h))), gd_s_X2_isSide w h⟩)
set_option maxHeartbeats 4000000 in
set_option maxRecDepth 100000 in
theorem s_X2_lay (l : Launch) (dC : Nat → ClassId) (dI : Nat → Nat → Nat) (sz : Nat) (h0 : Nat) (p1 : Int32) (p2 : Int32) (gw : Int32) (gh : Int32) (h0_2 : Value) (h0_3 : Value) (h0_4 : Value) (h0_5 : Value) (h0_6 : Value) (gc : Int32) (h0_8 : Value) (h0_9 : Value) (h0_10 : Value) (hB_gw : ((2 : Int) ≤ (gw).toInt ∧ (gw).toInt ≤ (12 : Int))) (hB_gh : ((2 : Int) ≤ (gh).toInt ∧ (gh).toInt ≤ (12 : Int))) (hB_gc : ((0 : Int) ≤ (gc).toInt ∧ (gc).toInt ≤ (10 : Int))) : Met l yX2_lay u_s_X2_lay ({ frames := 1, cells := 0, slots := 0, locals := 20 }) (va_Pc [.ref h0, .int p1, .int p2] (z_C (dC, dI) vwCl [(h0, .inr (2, [.int gw, .int gh, h0_2, h0_3, h0_4, h0_5, h0_6, .int gc, h0_8, h0_9, h0_10]))] [] sz)) (va_Qi (fun (r : Int32) (_ : Unit) => ((0 : Int) ≤ (r).toInt ∧ (r).toInt ≤ (1 : Int))) (fun (_ : Unit) (t : State) => ∃ (n_h0_w : Int32), ∃ (n_h0_h : Int32), ∃ (n_h0_columns : Int32), ((2 : Int) ≤ (n_h0_w).toInt ∧ (n_h0_w).toInt ≤ (12 : Int)) ∧ ((2 : Int) ≤ (n_h0_h).toInt ∧ (n_h0_h).toInt ≤ (12 : Int)) ∧ ((0 : Int) ≤ (n_h0_columns).toInt ∧ (n_h0_columns).toInt ≤ (10 : Int)) ∧ va_P (dC, dI) vwCl [(h0, .inr (2, [.int n_h0_w, .int n_h0_h, h0_2, h0_3, h0_4, h0_5, h0_6, .int n_h0_columns, h0_8, h0_9, h0_10]))] t.heap ∧ va_K (dC, dI) vwCl [] t ∧ va_D (va_A [(h0, .inr (2, [.int gw, .int gh, h0_2, h0_3, h0_4, h0_5, h0_6, .int gc, h0_8, h0_9, h0_10]))] sz) [(h0, .inr (2, [.int n_h0_w, .int n_h0_h, h0_2, h0_3, h0_4, h0_5, h0_6, .int n_h0_columns, h0_8, h0_9, h0_10]))]) (va_A [(h0, .inr (2, [.int gw, .int gh, h0_2, h0_3, h0_4, h0_5, h0_6, .int gc, h0_8, h0_9, h0_10]))] sz)) 0 0 (va_A [(h0, .inr (2, [.int gw, .int gh, h0_2, h0_3, h0_4, h0_5, h0_6, .int gc, h0_8, h0_9, h0_10]))] sz) := by
  refine Met.ofW (cc := cX2_lay) (maxL := 3) (ret := (some .boolean)) (by decide) rfl ?_
  intro p e s m args below meth c s₁ B hml hv
  obtain ⟨rfl, hsz, hP, hK, hD0⟩ := hv
  have hx := B.exec
  have hb := B.bytes
  have hr := B.returns
  have hts := atoms_spec (ws := u_s_X2_lay) B.pre
  have hown : s.vm.findClass RX2 = some m.cls := findClass_of_methodNamed B.named
  have hlocks := B.notSynchronized
  subst hsz
  have hD := hD0.self (sz := s.heap.size)
  generalize hAe : va_A [(h0, .inr (2, [.int gw, .int gh, h0_2, h0_3, h0_4, h0_5, h0_6, .int gc, h0_8, h0_9, h0_10]))] s.heap.size = A at hD ⊢
  have hA : ∀ q : Nat, s.heap.size ≤ q → A q := fun q h => by rw [← hAe]; exact Or.inr h
  have hS : va_S A s.heap s.heap [] := va_S.rf
  have hP : va_P (dC, dI) vwCl [(h0, .inr (2, [.int gw, .int gh, h0_2, h0_3, h0_4, h0_5, h0_6, .int gc, h0_8, h0_9, h0_10]))] s.heap := hP
  have w__fieldLink_RX2_9_ShellHeap_Ground_w_I_ := hts (.fieldLink RX2 9 "ShellHeap$Ground" "w" "I") (z_mc (z_ml z_m3))
  have hiX2 := show ∀ w ∈ u_ws RX2 TX2 11, w ∈ u_s_X2_lay from fun w h => z_mc (z_mr (z_ml h))
  have w__fieldLink_RX2_15_ShellHeap_Ground_h_I_ := hts (.fieldLink RX2 15 "ShellHeap$Ground" "h" "I") (z_mc (z_ml z_m4))
  have w__fieldLink_RX2_34_ShellHeap_Ground_columns_I_ := hts (.fieldLink RX2 34 "ShellHeap$Ground" "columns" "I") (z_mc (z_ml z_m5))
  have krr_p1 := z_rng p1
  have krr_p2 := z_rng p2
  have hl := lv_entry ([.ref h0, .int p1, .int p2]) (n := 3) (Nat.le_of_ble_eq_true rfl)
  rw [lg_entry_eq]
  generalize (lg_sl ([.ref h0, .int p1, .int p2]) ++ List.replicate (3 - (lg_sl ([.ref h0, .int p1, .int p2])).length) Slot.unset).toArray = ls at hl ⊢
  have hl : lv_has ls 3 [(0, .ref h0), (1, .int p1), (2, .int p2)] := hl
  refine lv_iload_n hx hb dX2_lay_0 rfl (lv_at hl 1 rfl) ?_
  obtain ⟨hPc, hDc⟩ := z_sub2 (ws' := []) hP hD [] (by decide) rfl
  have hKc := hK
  have hFc := va_free (ws := []) (wc := []) (z_D0 _) hS hA [] rfl
  refine va_calli (va_runS (As := [.int p1]) (rest := []) ⟨hx, hb, hml, hown, hts⟩ (s_X2_isSide l dC dI s.heap.size p1) (va_cwS 1 hts gw_s_X2_lay_s_X2_isSide_46 rfl rfl rfl (by decide +kernel) ⟨Nat.le_of_ble_eq_true rfl, Nat.le_of_ble_eq_true rfl⟩) ⟨z_blind, z_pre hPc hKc hDc⟩ rfl rfl hl.1 rfl (lv_room (Nat.le_of_ble_eq_true rfl)) dX2_lay_1 ⟨Nat.le_of_ble_eq_true rfl, Nat.le_of_ble_eq_true rfl⟩) hS (fun q _ h => hFc q h) hFc (fun r_2 u t H_1 locs ht hvm hw_3 hB hz1 hk1 hS => ?_)
  replace hP := z_pure hP hk1
  clear hPc hDc hKc
  rcases hw_3 with ⟨rfl, hw_3⟩ | ⟨rfl, hw_3⟩
  · have hw_3 : (2 ≤ p1.toInt ∧ p1.toInt ≤ 12) := hw_3
    refine lv_if_eq (tgt := 14) hx hb dX2_lay_4 (by decide) (fun c_4 => absurd c_4 (by decide)) (fun _ => ?_)
    refine lv_iload_n hx hb dX2_lay_7 rfl (lv_at hl 2 rfl) ?_
    obtain ⟨hPc, hDc⟩ := z_sub2 (ws' := []) hP hD [] (by decide) rfl
    have hKc := hK
    have hFc := va_free (ws := []) (wc := []) (z_D0 _) hS hA [] rfl
    refine va_calli (va_runS (As := [.int p2]) (rest := []) ⟨hx, hb, hml, hown, hts⟩ (s_X2_isSide l dC dI H_1.size p2) (va_cwS 1 hts gw_s_X2_lay_s_X2_isSide_46 rfl rfl rfl (by decide +kernel) ⟨Nat.le_of_ble_eq_true rfl, Nat.le_of_ble_eq_true rfl⟩) ⟨z_blind, z_pre hPc hKc hDc⟩ rfl rfl hl.1 rfl (lv_room (Nat.le_of_ble_eq_true rfl)) dX2_lay_8 ⟨Nat.le_of_ble_eq_true rfl, Nat.le_of_ble_eq_true rfl⟩) hS (fun q _ h => hFc q h) hFc (fun r_6 u t H_5 locs ht hvm hw_7 hB hz1 hk1 hS => ?_)
    replace hP := z_pure hP hk1
    clear hPc hDc hKc
    rcases hw_7 with ⟨rfl, hw_7⟩ | ⟨rfl, hw_7⟩
    · have hw_7 : (2 ≤ p2.toInt ∧ p2.toInt ≤ 12) := hw_7
      refine lv_if_ne (tgt := 16) hx hb dX2_lay_11 (by decide) (fun _ => ?_) (fun c_8 => absurd c_8 (by decide))
      refine lv_aload_n hx hb dX2_lay_16 rfl (lv_at hl 0 rfl) ?_
      refine lv_iload_n hx hb dX2_lay_17 rfl (lv_at hl 1 rfl) ?_
      refine va_put (D := (dC, dI)) (ci := 2) (v := .int p1) (ty := .int) (C := RX2) (T := TX2) (N := 11) hx hb hts hiX2 tyX2 tyX2_ok nmX2 hown hK hP hD hS 0 rfl rfl 0 (by decide) w__fieldLink_RX2_9_ShellHeap_Ground_w_I_ (fun _ h9 => h9) rfl (by decide +kernel) rfl rfl (Nat.le_of_ble_eq_true rfl) dX2_lay_18 (fun H_9 locs hP hD hS => ?_)
      obtain ⟨hP, hD⟩ := z_s_0_0 hP hD
      refine lv_aload_n hx hb dX2_lay_21 rfl (lv_at hl 0 rfl) ?_
      refine lv_iload_n hx hb dX2_lay_22 rfl (lv_at hl 2 rfl) ?_
      refine va_put (D := (dC, dI)) (ci := 2) (v := .int p2) (ty := .int) (C := RX2) (T := TX2) (N := 11) hx hb hts hiX2 tyX2 tyX2_ok nmX2 hown hK hP hD hS 0 rfl rfl 1 (by decide) w__fieldLink_RX2_15_ShellHeap_Ground_h_I_ (fun _ h9 => h9) rfl (by decide +kernel) rfl rfl (Nat.le_of_ble_eq_true rfl) dX2_lay_23 (fun H_10 locs hP hD hS => ?_)
      obtain ⟨hP, hD⟩ := z_s_0_1 hP hD
      refine lv_aload_n hx hb dX2_lay_26 rfl (lv_at hl 0 rfl) ?_
      refine lv_iconst (v := 0) hx hb dX2_lay_27 (by decide) ?_
      refine va_put (D := (dC, dI)) (ci := 2) (v := .int 0) (ty := .int) (C := RX2) (T := TX2) (N := 11) hx hb hts hiX2 tyX2 tyX2_ok nmX2 hown hK hP hD hS 0 rfl rfl 7 (by decide) w__fieldLink_RX2_34_ShellHeap_Ground_columns_I_ (fun _ h9 => h9) rfl (by decide +kernel) rfl rfl (Nat.le_of_ble_eq_true rfl) dX2_lay_28 (fun H_11 locs hP hD hS => ?_)
      obtain ⟨hP, hD⟩ := z_s_0_7 hP hD
      refine lv_iconst (v := 1) hx hb dX2_lay_31 (by decide) ?_
      have hP9 := hP
      have hD9 := hD
      have hK9 := hK.sub (tys' := []) [] rfl
      refine W.widen (k := 0) (n := 0) (Nat.le_of_ble_eq_true rfl) (Nat.le_of_ble_eq_true rfl) ?_
      exact W.zret (v := 1) hx hb hr (by rfl) (fun t ht hW => ⟨⟨1, (), rfl, (show ((0 : Int) ≤ (1 : Int) ∧ (1 : Int) ≤ (1 : Int)) by decide), ⟨p1, p2, 0, (by first | omega | decide), (by first | omega | decide), (by decide), by rw [ht]; exact hP9, va_K.moved hW.alike hK9, hD9⟩⟩, hS.F ht⟩) hS.2.2 dX2_lay_32
    · have hw_7 : True := hw_7
      refine lv_if_ne (tgt := 16) hx hb dX2_lay_11 (by decide) (fun c_12 => absurd c_12 (by decide)) (fun _ => ?_)
      refine lv_iconst (v := 0) hx hb dX2_lay_14 (by decide) ?_
      have hP9 := hP
      have hD9 := hD
      have hK9 := hK.sub (tys' := []) [] rfl
      refine W.widen (k := 0) (n := 0) (Nat.le_of_ble_eq_true rfl) (Nat.le_of_ble_eq_true rfl) ?_
      exact W.zret (v := 0) hx hb hr (by rfl) (fun t ht hW => ⟨⟨0, (), rfl, (show ((0 : Int) ≤ (0 : Int) ∧ (0 : Int) ≤ (1 : Int)) by decide), ⟨gw, gh, gc, hB_gw, hB_gh, hB_gc, by rw [ht]; exact hP9, va_K.moved hW.alike hK9, hD9⟩⟩, hS.F ht⟩) hS.2.2 dX2_lay_15
  · have hw_3 : True := hw_3
    refine lv_if_eq (tgt := 14) hx hb dX2_lay_4 (by decide) (fun _ => ?_) (fun c_13 => absurd (by decide) c_13)
    refine lv_iconst (v := 0) hx hb dX2_lay_14 (by decide) ?_
    have hP9 := hP
    have hD9 := hD
    have hK9 := hK.sub (tys' := []) [] rfl
    refine W.widen (k := 0) (n := 0) (Nat.le_of_ble_eq_true rfl) (Nat.le_of_ble_eq_true rfl) ?_
    exact W.zret (v := 0) hx hb hr (by rfl) (fun t ht hW => ⟨⟨0, (), rfl, (show ((0 : Int) ≤ (0 : Int) ∧ (0 : Int) ≤ (1 : Int)) by decide), ⟨gw, gh, gc, hB_gw, hB_gh, hB_gc, by rw [ht]; exact hP9, va_K.moved hW.alike hK9, hD9⟩⟩, hS.F ht⟩) hS.2.2 dX2_lay_15
def u_s_X2_draw : List Cond := .code yX2_draw cX2_draw 4 (some .int) :: ([.fieldLink RX2 9 "ShellHeap$Ground" "w" "I", .fieldLink RX2 15 "ShellHeap$Ground" "h" "I", .fieldLink RX2 34 "ShellHeap$Ground" "columns" "I", .fieldLink RX2 18 "ShellHeap$Ground" "xs" "[I", .fieldLink RX2 22 "ShellHeap$Ground" "ys" "[I", .fieldLink RX2 31 "ShellHeap$Ground" "thickness" "[I"] ++ (wsX20 ++ []))
theorem gd_s_X2_draw : z_gd u_s_X2_draw := z_gdc (by decide +kernel) (z_gda gdX2 (z_gd0))
set_option maxHeartbeats 4000000 in
set_option maxRecDepth 100000 in
theorem s_X2_draw (l : Launch) (dC : Nat → ClassId) (dI : Nat → Nat → Nat) (sz : Nat) (h0 : Nat) (p1 : Int32) (p2 : Int32) (gw : Int32) (gh : Int32) (h1 : Nat) (h2 : Nat) (h0_4 : Value) (h0_5 : Value) (h3 : Nat) (gc : Int32) (h0_8 : Value) (h0_9 : Value) (h0_10 : Value) (ch1 : ClassId) (fh1 : Nat → Int32) (ch2 : ClassId) (fh2 : Nat → Int32) (ch3 : ClassId) (fh3 : Nat → Int32) (hB_gw : ((2 : Int) ≤ (gw).toInt ∧ (gw).toInt ≤ (12 : Int))) (hB_gh : ((2 : Int) ≤ (gh).toInt ∧ (gh).toInt ≤ (12 : Int))) (hB_gc : ((0 : Int) ≤ (gc).toInt ∧ (gc).toInt ≤ (10 : Int))) : Met l yX2_draw u_s_X2_draw ({ frames := 0, cells := 0, slots := 0, locals := 0 }) (va_Pc [.ref h0, .int p1, .int p2] (z_C (dC, dI) vwCl [(h0, .inr (2, [.int gw, .int gh, .ref h1, .ref h2, h0_4, h0_5, .ref h3, .int gc, h0_8, h0_9, h0_10])), (h1, .inl (ch1, 10, .inl fh1)), (h2, .inl (ch2, 10, .inl fh2)), (h3, .inl (ch3, 120, .inl fh3))] [(ch1, .int), (ch2, .int), (ch3, .int)] sz)) (va_Qi (fun (r : Int32) (_ : Unit) => True) (fun (_ : Unit) (t : State) => ∃ (n_h0_columns : Int32), ∃ (g_h1 : Nat → Int32), ∃ (g_h2 : Nat → Int32), ∃ (g_h3 : Nat → Int32), ((0 : Int) ≤ (n_h0_columns).toInt ∧ (n_h0_columns).toInt ≤ (10 : Int)) ∧ va_P (dC, dI) vwCl [(h0, .inr (2, [.int gw, .int gh, .ref h1, .ref h2, h0_4, h0_5, .ref h3, .int n_h0_columns, h0_8, h0_9, h0_10])), (h1, .inl (ch1, 10, .inl g_h1)), (h2, .inl (ch2, 10, .inl g_h2)), (h3, .inl (ch3, 120, .inl g_h3))] t.heap ∧ va_K (dC, dI) vwCl [] t ∧ va_D (va_A [(h0, .inr (2, [.int gw, .int gh, .ref h1, .ref h2, h0_4, h0_5, .ref h3, .int gc, h0_8, h0_9, h0_10])), (h1, .inl (ch1, 10, .inl fh1)), (h2, .inl (ch2, 10, .inl fh2)), (h3, .inl (ch3, 120, .inl fh3))] sz) [(h0, .inr (2, [.int gw, .int gh, .ref h1, .ref h2, h0_4, h0_5, .ref h3, .int n_h0_columns, h0_8, h0_9, h0_10])), (h1, .inl (ch1, 10, .inl g_h1)), (h2, .inl (ch2, 10, .inl g_h2)), (h3, .inl (ch3, 120, .inl g_h3))]) (va_A [(h0, .inr (2, [.int gw, .int gh, .ref h1, .ref h2, h0_4, h0_5, .ref h3, .int gc, h0_8, h0_9, h0_10])), (h1, .inl (ch1, 10, .inl fh1)), (h2, .inl (ch2, 10, .inl fh2)), (h3, .inl (ch3, 120, .inl fh3))] sz)) 0 0 (va_A [(h0, .inr (2, [.int gw, .int gh, .ref h1, .ref h2, h0_4, h0_5, .ref h3, .int gc, h0_8, h0_9, h0_10])), (h1, .inl (ch1, 10, .inl fh1)), (h2, .inl (ch2, 10, .inl fh2)), (h3, .inl (ch3, 120, .inl fh3))] sz) := by
  refine Met.ofW (cc := cX2_draw) (maxL := 4) (ret := (some .int)) (by decide) rfl ?_
  intro p e s m args below meth c s₁ B hml hv
  obtain ⟨rfl, hsz, hP, hK, hD0⟩ := hv
  have hx := B.exec
  have hb := B.bytes
  have hr := B.returns
  have hts := atoms_spec (ws := u_s_X2_draw) B.pre
  have hown : s.vm.findClass RX2 = some m.cls := findClass_of_methodNamed B.named
  have hlocks := B.notSynchronized
  subst hsz
  have hD := hD0.self (sz := s.heap.size)
  generalize hAe : va_A [(h0, .inr (2, [.int gw, .int gh, .ref h1, .ref h2, h0_4, h0_5, .ref h3, .int gc, h0_8, h0_9, h0_10])), (h1, .inl (ch1, 10, .inl fh1)), (h2, .inl (ch2, 10, .inl fh2)), (h3, .inl (ch3, 120, .inl fh3))] s.heap.size = A at hD ⊢
  have hA : ∀ q : Nat, s.heap.size ≤ q → A q := fun q h => by rw [← hAe]; exact Or.inr h
  have hS : va_S A s.heap s.heap [] := va_S.rf
  have hP : va_P (dC, dI) vwCl [(h0, .inr (2, [.int gw, .int gh, .ref h1, .ref h2, h0_4, h0_5, .ref h3, .int gc, h0_8, h0_9, h0_10])), (h1, .inl (ch1, 10, .inl fh1)), (h2, .inl (ch2, 10, .inl fh2)), (h3, .inl (ch3, 120, .inl fh3))] s.heap := hP
  have w__fieldLink_RX2_9_ShellHeap_Ground_w_I_ := hts (.fieldLink RX2 9 "ShellHeap$Ground" "w" "I") (z_mc (z_ml z_m0))
  have hiX2 := show ∀ w ∈ u_ws RX2 TX2 11, w ∈ u_s_X2_draw from fun w h => z_mc (z_mr (z_ml h))
  have w__fieldLink_RX2_15_ShellHeap_Ground_h_I_ := hts (.fieldLink RX2 15 "ShellHeap$Ground" "h" "I") (z_mc (z_ml z_m1))
  have w__fieldLink_RX2_34_ShellHeap_Ground_columns_I_ := hts (.fieldLink RX2 34 "ShellHeap$Ground" "columns" "I") (z_mc (z_ml z_m2))
  have w__fieldLink_RX2_18_ShellHeap_Ground_xs_I_ := hts (.fieldLink RX2 18 "ShellHeap$Ground" "xs" "[I") (z_mc (z_ml z_m3))
  have w__fieldLink_RX2_22_ShellHeap_Ground_ys_I_ := hts (.fieldLink RX2 22 "ShellHeap$Ground" "ys" "[I") (z_mc (z_ml z_m4))
  have w__fieldLink_RX2_31_ShellHeap_Ground_thickness_I_ := hts (.fieldLink RX2 31 "ShellHeap$Ground" "thickness" "[I") (z_mc (z_ml z_m5))
  have krr_p1 := z_rng p1
  have krr_p2 := z_rng p2
  have hl := lv_entry ([.ref h0, .int p1, .int p2]) (n := 4) (Nat.le_of_ble_eq_true rfl)
  rw [lg_entry_eq]
  generalize (lg_sl ([.ref h0, .int p1, .int p2]) ++ List.replicate (4 - (lg_sl ([.ref h0, .int p1, .int p2])).length) Slot.unset).toArray = ls at hl ⊢
  have hl : lv_has ls 4 [(0, .ref h0), (1, .int p1), (2, .int p2)] := hl
  refine z_nameQ (fun QQ hQQ => ?_)
  refine lv_iload_n hx hb dX2_draw_0 rfl (lv_at hl 1 rfl) ?_
  refine lv_if_lt (tgt := 33) hx hb dX2_draw_1 (by decide) (fun c_1 => ?_) (fun c_1 => ?_)
  · have k_2 : (p1).toInt < (0 : Int) := z_lt c_1
    refine lv_iconst (v := (-1)) hx hb dX2_draw_33 (by decide) ?_
    refine z_backQ hQQ ?_
    have hP9 := hP
    have hD9 := hD
    have hK9 := hK.sub (tys' := []) [] rfl
    refine W.widen (k := 0) (n := 0) (Nat.le_of_ble_eq_true rfl) (Nat.le_of_ble_eq_true rfl) ?_
    exact W.iret (v := (-1)) hx hb hr (fun t ht hW => ⟨⟨(-1), (), rfl, trivial, ⟨gc, fh1, fh2, fh3, hB_gc, by rw [ht]; exact hP9, va_K.moved hW.alike hK9, hD9⟩⟩, hS.F ht⟩) hS.2.2 dX2_draw_34
  · have k_3 : (p1).toInt ≥ (0 : Int) := z_nlt c_1
    refine lv_iload_n hx hb dX2_draw_4 rfl (lv_at hl 1 rfl) ?_
    refine lv_aload_n hx hb dX2_draw_5 rfl (lv_at hl 0 rfl) ?_
    refine va_get (D := (dC, dI)) (ci := 2) (v := .int gw) (C := RX2) (T := TX2) (N := 11) hx hb hts hiX2 hown hK hP 0 rfl rfl 0 (by decide) w__fieldLink_RX2_9_ShellHeap_Ground_w_I_ (fun _ h9 => h9) rfl dX2_draw_6 ?_
    refine lv_icmp_ge (tgt := 33) hx hb dX2_draw_9 (by decide) (fun c_4 => ?_) (fun c_4 => ?_)
    · have k_5 : (gw).toInt ≤ (p1).toInt := z_le c_4
      refine lv_iconst (v := (-1)) hx hb dX2_draw_33 (by decide) ?_
      refine z_backQ hQQ ?_
      have hP9 := hP
      have hD9 := hD
      have hK9 := hK.sub (tys' := []) [] rfl
      refine W.widen (k := 0) (n := 0) (Nat.le_of_ble_eq_true rfl) (Nat.le_of_ble_eq_true rfl) ?_
      exact W.iret (v := (-1)) hx hb hr (fun t ht hW => ⟨⟨(-1), (), rfl, trivial, ⟨gc, fh1, fh2, fh3, hB_gc, by rw [ht]; exact hP9, va_K.moved hW.alike hK9, hD9⟩⟩, hS.F ht⟩) hS.2.2 dX2_draw_34
    · have k_6 : (gw).toInt > (p1).toInt := z_nle c_4
      refine lv_iload_n hx hb dX2_draw_12 rfl (lv_at hl 2 rfl) ?_
      refine lv_if_lt (tgt := 33) hx hb dX2_draw_13 (by decide) (fun c_7 => ?_) (fun c_7 => ?_)
      · have k_8 : (p2).toInt < (0 : Int) := z_lt c_7
        refine lv_iconst (v := (-1)) hx hb dX2_draw_33 (by decide) ?_
        refine z_backQ hQQ ?_
        have hP9 := hP
        have hD9 := hD
        have hK9 := hK.sub (tys' := []) [] rfl
        refine W.widen (k := 0) (n := 0) (Nat.le_of_ble_eq_true rfl) (Nat.le_of_ble_eq_true rfl) ?_
        exact W.iret (v := (-1)) hx hb hr (fun t ht hW => ⟨⟨(-1), (), rfl, trivial, ⟨gc, fh1, fh2, fh3, hB_gc, by rw [ht]; exact hP9, va_K.moved hW.alike hK9, hD9⟩⟩, hS.F ht⟩) hS.2.2 dX2_draw_34
      · have k_9 : (p2).toInt ≥ (0 : Int) := z_nlt c_7
        refine lv_iload_n hx hb dX2_draw_16 rfl (lv_at hl 2 rfl) ?_
        refine lv_aload_n hx hb dX2_draw_17 rfl (lv_at hl 0 rfl) ?_
        refine va_get (D := (dC, dI)) (ci := 2) (v := .int gh) (C := RX2) (T := TX2) (N := 11) hx hb hts hiX2 hown hK hP 0 rfl rfl 1 (by decide) w__fieldLink_RX2_15_ShellHeap_Ground_h_I_ (fun _ h9 => h9) rfl dX2_draw_18 ?_
        refine lv_icmp_ge (tgt := 33) hx hb dX2_draw_21 (by decide) (fun c_10 => ?_) (fun c_10 => ?_)
        · have k_11 : (gh).toInt ≤ (p2).toInt := z_le c_10
          refine lv_iconst (v := (-1)) hx hb dX2_draw_33 (by decide) ?_
          refine z_backQ hQQ ?_
          have hP9 := hP
          have hD9 := hD
          have hK9 := hK.sub (tys' := []) [] rfl
          refine W.widen (k := 0) (n := 0) (Nat.le_of_ble_eq_true rfl) (Nat.le_of_ble_eq_true rfl) ?_
          exact W.iret (v := (-1)) hx hb hr (fun t ht hW => ⟨⟨(-1), (), rfl, trivial, ⟨gc, fh1, fh2, fh3, hB_gc, by rw [ht]; exact hP9, va_K.moved hW.alike hK9, hD9⟩⟩, hS.F ht⟩) hS.2.2 dX2_draw_34
        · have k_12 : (gh).toInt > (p2).toInt := z_nle c_10
          refine lv_aload_n hx hb dX2_draw_24 rfl (lv_at hl 0 rfl) ?_
          refine va_get (D := (dC, dI)) (ci := 2) (v := .int gc) (C := RX2) (T := TX2) (N := 11) hx hb hts hiX2 hown hK hP 0 rfl rfl 7 (by decide) w__fieldLink_RX2_34_ShellHeap_Ground_columns_I_ (fun _ h9 => h9) rfl dX2_draw_25 ?_
          refine lv_bipush (v := 10) hx hb dX2_draw_28 (by decide) ?_
          refine lv_icmp_lt (tgt := 35) hx hb dX2_draw_30 (by decide) (fun c_13 => ?_) (fun c_13 => ?_)
          · have k_14 : (gc).toInt < (10 : Int) := z_lt c_13
            refine lv_iconst (v := 0) hx hb dX2_draw_35 (by decide) ?_
            refine lv_istore_n (lv' := [(3, .int 0), (0, .ref h0), (1, .int p1), (2, .int p2)]) hx hb dX2_draw_36 rfl hl (by decide) rfl (fun ls hl => ?_)
            have loop_15 : ∀ (n_16 : Nat) (i_18 : Int32) (H : Heap) (locs : List Loc) (ls : Array Slot), (11 - (i_18).toInt).toNat < n_16 → (((0 : Int) ≤ (i_18).toInt ∧ (i_18).toInt ≤ (10 : Int))) → va_P (dC, dI) vwCl [(h0, .inr (2, [.int gw, .int gh, .ref h1, .ref h2, h0_4, h0_5, .ref h3, .int gc, h0_8, h0_9, h0_10])), (h1, .inl (ch1, 10, .inl fh1)), (h2, .inl (ch2, 10, .inl fh2)), (h3, .inl (ch3, 120, .inl fh3))] H → va_D A [(h0, .inr (2, [.int gw, .int gh, .ref h1, .ref h2, h0_4, h0_5, .ref h3, .int gc, h0_8, h0_9, h0_10])), (h1, .inl (ch1, 10, .inl fh1)), (h2, .inl (ch2, 10, .inl fh2)), (h3, .inl (ch3, 120, .inl fh3))] → va_S A s.heap H locs → lv_has ls 4 [(3, .int i_18), (0, .ref h0), (1, .int p1), (2, .int p2)] → W p l e ({ frames := 0, cells := 0, slots := 0, locals := 0 } : Room) s m ([.ref h0, .int p1, .int p2] : List Value).toArray below meth c H locs 0 0 QQ (F0 m 37 ls []) := by
              intro n_16
              induction n_16 with
              | zero => intro i_18 H locs ls hm; exact absurd hm (Nat.not_lt_zero _)
              | succ n_16 ih_17 =>
                intro i_18 H locs ls hm hF_19 hP hD hS hl
                refine lv_iload_n hx hb dX2_draw_37 rfl (lv_at hl 0 rfl) ?_
                refine lv_aload_n hx hb dX2_draw_38 rfl (lv_at hl 1 rfl) ?_
                refine va_get (D := (dC, dI)) (ci := 2) (v := .int gc) (C := RX2) (T := TX2) (N := 11) hx hb hts hiX2 hown hK hP 0 rfl rfl 7 (by decide) w__fieldLink_RX2_34_ShellHeap_Ground_columns_I_ (fun _ h9 => h9) rfl dX2_draw_39 ?_
                refine lv_icmp_ge (tgt := 73) hx hb dX2_draw_42 (by decide) (fun c_20 => ?_) (fun c_20 => ?_)
                · have k_21 : (gc).toInt ≤ (i_18).toInt := z_le c_20
                  refine lv_aload_n hx hb dX2_draw_73 rfl (lv_at hl 1 rfl) ?_
                  refine va_get (D := (dC, dI)) (ci := 2) (v := .ref h1) (C := RX2) (T := TX2) (N := 11) hx hb hts hiX2 hown hK hP 0 rfl rfl 2 (by decide) w__fieldLink_RX2_18_ShellHeap_Ground_xs_I_ (fun _ h9 => h9) rfl dX2_draw_74 ?_
                  refine lv_aload_n hx hb dX2_draw_77 rfl (lv_at hl 1 rfl) ?_
                  refine va_get (D := (dC, dI)) (ci := 2) (v := .int gc) (C := RX2) (T := TX2) (N := 11) hx hb hts hiX2 hown hK hP 0 rfl rfl 7 (by decide) w__fieldLink_RX2_34_ShellHeap_Ground_columns_I_ (fun _ h9 => h9) rfl dX2_draw_78 ?_
                  refine lv_iload_n hx hb dX2_draw_81 rfl (lv_at hl 2 rfl) ?_
                  refine va_iast hx hb hK hP hD hS 1 0 rfl rfl (z_vpin (by omega) (by omega)) dX2_draw_82 (fun H_22 locs hP hD hS => ?_)
                  obtain ⟨hP, hD⟩ := z_s_1 hP hD
                  generalize (upd fh1 (gc : Int32).toNatClampNeg p1) = f_23 at hP hD
                  refine lv_aload_n hx hb dX2_draw_83 rfl (lv_at hl 1 rfl) ?_
                  refine va_get (D := (dC, dI)) (ci := 2) (v := .ref h2) (C := RX2) (T := TX2) (N := 11) hx hb hts hiX2 hown hK hP 0 rfl rfl 3 (by decide) w__fieldLink_RX2_22_ShellHeap_Ground_ys_I_ (fun _ h9 => h9) rfl dX2_draw_84 ?_
                  refine lv_aload_n hx hb dX2_draw_87 rfl (lv_at hl 1 rfl) ?_
                  refine va_get (D := (dC, dI)) (ci := 2) (v := .int gc) (C := RX2) (T := TX2) (N := 11) hx hb hts hiX2 hown hK hP 0 rfl rfl 7 (by decide) w__fieldLink_RX2_34_ShellHeap_Ground_columns_I_ (fun _ h9 => h9) rfl dX2_draw_88 ?_
                  refine lv_iload_n hx hb dX2_draw_91 rfl (lv_at hl 3 rfl) ?_
                  refine va_iast hx hb hK hP hD hS 2 1 rfl rfl (z_vpin (by omega) (by omega)) dX2_draw_92 (fun H_24 locs hP hD hS => ?_)
                  obtain ⟨hP, hD⟩ := z_s_2 hP hD
                  generalize (upd fh2 (gc : Int32).toNatClampNeg p2) = f_25 at hP hD
                  refine lv_iconst (v := 0) hx hb dX2_draw_93 (by decide) ?_
                  refine lv_istore_n (lv' := [(3, .int 0), (0, .ref h0), (1, .int p1), (2, .int p2)]) hx hb dX2_draw_94 rfl hl (by decide) rfl (fun ls hl => ?_)
                  have loop_26 : ∀ (n_27 : Nat) (i_29 : Int32) (f_30 : Nat → Int32) (H : Heap) (locs : List Loc) (ls : Array Slot), (13 - (i_29).toInt).toNat < n_27 → (((0 : Int) ≤ (i_29).toInt ∧ (i_29).toInt ≤ (12 : Int))) → va_P (dC, dI) vwCl [(h0, .inr (2, [.int gw, .int gh, .ref h1, .ref h2, h0_4, h0_5, .ref h3, .int gc, h0_8, h0_9, h0_10])), (h1, .inl (ch1, 10, .inl f_23)), (h2, .inl (ch2, 10, .inl f_25)), (h3, .inl (ch3, 120, .inl f_30))] H → va_D A [(h0, .inr (2, [.int gw, .int gh, .ref h1, .ref h2, h0_4, h0_5, .ref h3, .int gc, h0_8, h0_9, h0_10])), (h1, .inl (ch1, 10, .inl f_23)), (h2, .inl (ch2, 10, .inl f_25)), (h3, .inl (ch3, 120, .inl f_30))] → va_S A s.heap H locs → lv_has ls 4 [(3, .int i_29), (0, .ref h0), (1, .int p1), (2, .int p2)] → W p l e ({ frames := 0, cells := 0, slots := 0, locals := 0 } : Room) s m ([.ref h0, .int p1, .int p2] : List Value).toArray below meth c H locs 0 0 QQ (F0 m 95 ls []) := by
                    intro n_27
                    induction n_27 with
                    | zero => intro i_29 f_30 H locs ls hm; exact absurd hm (Nat.not_lt_zero _)
                    | succ n_27 ih_28 =>
                      intro i_29 f_30 H locs ls hm hF_31 hP hD hS hl
                      refine lv_iload_n hx hb dX2_draw_95 rfl (lv_at hl 0 rfl) ?_
                      refine lv_bipush (v := 12) hx hb dX2_draw_96 (by decide) ?_
                      refine lv_icmp_ge (tgt := 122) hx hb dX2_draw_98 (by decide) (fun c_32 => ?_) (fun c_32 => ?_)
                      · have k_33 : (12 : Int) ≤ (i_29).toInt := z_le c_32
                        obtain rfl : i_29 = 12 := z_eq' (show (i_29).toInt = (12 : Int) by omega)
                        refine lv_aload_n hx hb dX2_draw_122 rfl (lv_at hl 1 rfl) ?_
                        refine lv_dup hx hb dX2_draw_123 rfl ?_
                        refine va_get (D := (dC, dI)) (ci := 2) (v := .int gc) (C := RX2) (T := TX2) (N := 11) hx hb hts hiX2 hown hK hP 0 rfl rfl 7 (by decide) w__fieldLink_RX2_34_ShellHeap_Ground_columns_I_ (fun _ h9 => h9) rfl dX2_draw_124 ?_
                        refine lv_iconst (v := 1) hx hb dX2_draw_127 (by decide) ?_
                        refine lv_iadd hx hb dX2_draw_128 ?_
                        refine lv_topi (fun z_35 ez_35 => ?_)
                        have kz_35 : (z_35).toInt = (gc).toInt + (1 : Int) := by rw [ez_35]; exact z_add (a := (gc).toInt) (b := (1 : Int)) rfl rfl (z_al hB_gc.1 (by decide)) (z_ah hB_gc.2 (by decide))
                        refine va_put (D := (dC, dI)) (ci := 2) (v := .int z_35) (ty := .int) (C := RX2) (T := TX2) (N := 11) hx hb hts hiX2 tyX2 tyX2_ok nmX2 hown hK hP hD hS 0 rfl rfl 7 (by decide) w__fieldLink_RX2_34_ShellHeap_Ground_columns_I_ (fun _ h9 => h9) rfl (by decide +kernel) rfl rfl (Nat.le_of_ble_eq_true rfl) dX2_draw_129 (fun H_36 locs hP hD hS => ?_)
                        obtain ⟨hP, hD⟩ := z_s_0_7 hP hD
                        refine lv_aload_n hx hb dX2_draw_132 rfl (lv_at hl 1 rfl) ?_
                        refine va_get (D := (dC, dI)) (ci := 2) (v := .int z_35) (C := RX2) (T := TX2) (N := 11) hx hb hts hiX2 hown hK hP 0 rfl rfl 7 (by decide) w__fieldLink_RX2_34_ShellHeap_Ground_columns_I_ (fun _ h9 => h9) rfl dX2_draw_133 ?_
                        refine lv_iconst (v := 1) hx hb dX2_draw_136 (by decide) ?_
                        refine lv_isub hx hb dX2_draw_137 ?_
                        refine lv_topi (fun z_37 ez_37 => ?_)
                        have kz_37 : (z_37).toInt = (z_35).toInt - (1 : Int) := by rw [ez_37]; exact z_sub (a := (z_35).toInt) (b := (1 : Int)) rfl rfl (by omega) (by omega)
                        refine z_backQ hQQ ?_
                        have hP9 := hP
                        have hD9 := hD
                        have hK9 := hK.sub (tys' := []) [] rfl
                        refine W.widen (k := 0) (n := 0) (Nat.le_of_ble_eq_true rfl) (Nat.le_of_ble_eq_true rfl) ?_
                        exact W.iret (v := z_37) hx hb hr (fun t ht hW => ⟨⟨z_37, (), rfl, trivial, ⟨z_35, f_23, f_25, f_30, (by first | omega | decide), by rw [ht]; exact hP9, va_K.moved hW.alike hK9, hD9⟩⟩, hS.F ht⟩) hS.2.2 dX2_draw_138
                      · have k_38 : (12 : Int) > (i_29).toInt := z_nle c_32
                        refine lv_aload_n hx hb dX2_draw_101 rfl (lv_at hl 1 rfl) ?_
                        refine va_get (D := (dC, dI)) (ci := 2) (v := .ref h3) (C := RX2) (T := TX2) (N := 11) hx hb hts hiX2 hown hK hP 0 rfl rfl 6 (by decide) w__fieldLink_RX2_31_ShellHeap_Ground_thickness_I_ (fun _ h9 => h9) rfl dX2_draw_102 ?_
                        refine lv_aload_n hx hb dX2_draw_105 rfl (lv_at hl 1 rfl) ?_
                        refine va_get (D := (dC, dI)) (ci := 2) (v := .int gc) (C := RX2) (T := TX2) (N := 11) hx hb hts hiX2 hown hK hP 0 rfl rfl 7 (by decide) w__fieldLink_RX2_34_ShellHeap_Ground_columns_I_ (fun _ h9 => h9) rfl dX2_draw_106 ?_
                        refine lv_bipush (v := 12) hx hb dX2_draw_109 (by decide) ?_
                        refine lv_imul hx hb dX2_draw_111 ?_
                        refine lv_topi (fun z_39 ez_39 => ?_)
                        have kz_39 : (z_39).toInt = (gc).toInt * (12 : Int) := by rw [ez_39]; exact z_mul (a := (gc).toInt) (b := (12 : Int)) rfl rfl (by omega) (by omega)
                        refine lv_iload_n hx hb dX2_draw_112 rfl (lv_at hl 0 rfl) ?_
                        refine lv_iadd hx hb dX2_draw_113 ?_
                        refine lv_topi (fun z_40 ez_40 => ?_)
                        have kz_40 : (z_40).toInt = (z_39).toInt + (i_29).toInt := by rw [ez_40]; exact z_add (a := (z_39).toInt) (b := (i_29).toInt) rfl rfl (by omega) (by omega)
                        refine lv_iconst (v := 0) hx hb dX2_draw_114 (by decide) ?_
                        refine va_iast hx hb hK hP hD hS 3 2 rfl rfl (z_vpin (by omega) (by omega)) dX2_draw_115 (fun H_41 locs hP hD hS => ?_)
                        obtain ⟨hP, hD⟩ := z_s_3 hP hD
                        generalize (upd f_30 (z_40 : Int32).toNatClampNeg 0) = f_42 at hP hD
                        obtain ⟨z_43, ez_43⟩ : ∃ y : Int32, y = i_29 + 1 := ⟨_, rfl⟩
                        have kz_43 : (z_43).toInt = (i_29).toInt + (1 : Int) := by rw [ez_43]; exact z_add (b := 1) rfl rfl (z_al hF_31.1 (by decide)) (z_ah hF_31.2 (by decide))
                        refine lv_iinc (v := z_43) (lv' := [(3, .int z_43), (0, .ref h0), (1, .int p1), (2, .int p2)]) hx hb dX2_draw_116 hl (k := 0) rfl (by rw [ez_43]; rfl) (by decide) rfl (fun ls hl => ?_)
                        refine lv_goto (tgt := 95) hx hb dX2_draw_119 (by decide) ?_
                        exact ih_28 z_43 f_42 _ _ _ (show (13 - (z_43).toInt).toNat < n_27 by omega) (show ((0 : Int) ≤ (z_43).toInt ∧ (z_43).toInt ≤ (12 : Int)) by omega) hP hD hS (lv_sub hl [0, 1, 2, 3] rfl)
                  exact loop_26 _ 0 fh3 _ _ _ (Nat.lt_succ_self _) (show ((0 : Int) ≤ (0 : Int) ∧ (0 : Int) ≤ (12 : Int)) by omega) hP hD hS hl
                · have k_44 : (gc).toInt > (i_18).toInt := z_nle c_20
                  refine lv_aload_n hx hb dX2_draw_45 rfl (lv_at hl 1 rfl) ?_
                  refine va_get (D := (dC, dI)) (ci := 2) (v := .ref h1) (C := RX2) (T := TX2) (N := 11) hx hb hts hiX2 hown hK hP 0 rfl rfl 2 (by decide) w__fieldLink_RX2_18_ShellHeap_Ground_xs_I_ (fun _ h9 => h9) rfl dX2_draw_46 ?_
                  refine lv_iload_n hx hb dX2_draw_49 rfl (lv_at hl 0 rfl) ?_
                  refine va_iald hx hb hK hP 1 0 rfl rfl (z_vpin (by omega) (by omega)) dX2_draw_50 ?_
                  refine lv_topi (fun z_45 ez_45 => ?_)
                  refine lv_iload_n hx hb dX2_draw_51 rfl (lv_at hl 2 rfl) ?_
                  refine lv_icmp_ne (tgt := 67) hx hb dX2_draw_52 (by decide) (fun c_46 => ?_) (fun c_46 => ?_)
                  · have k_47 : (z_45).toInt ≠ (p1).toInt := z_ne c_46
                    obtain ⟨z_48, ez_48⟩ : ∃ y : Int32, y = i_18 + 1 := ⟨_, rfl⟩
                    have kz_48 : (z_48).toInt = (i_18).toInt + (1 : Int) := by rw [ez_48]; exact z_add (b := 1) rfl rfl (z_al hF_19.1 (by decide)) (z_ah hF_19.2 (by decide))
                    refine lv_iinc (v := z_48) (lv' := [(3, .int z_48), (0, .ref h0), (1, .int p1), (2, .int p2)]) hx hb dX2_draw_67 hl (k := 0) rfl (by rw [ez_48]; rfl) (by decide) rfl (fun ls hl => ?_)
                    refine lv_goto (tgt := 37) hx hb dX2_draw_70 (by decide) ?_
                    exact ih_17 z_48 _ _ _ (show (11 - (z_48).toInt).toNat < n_16 by omega) (show ((0 : Int) ≤ (z_48).toInt ∧ (z_48).toInt ≤ (10 : Int)) by omega) hP hD hS (lv_sub hl [0, 1, 2, 3] rfl)
                  · have k_49 : (z_45).toInt = (p1).toInt := z_eq c_46
                    refine lv_aload_n hx hb dX2_draw_55 rfl (lv_at hl 1 rfl) ?_
                    refine va_get (D := (dC, dI)) (ci := 2) (v := .ref h2) (C := RX2) (T := TX2) (N := 11) hx hb hts hiX2 hown hK hP 0 rfl rfl 3 (by decide) w__fieldLink_RX2_22_ShellHeap_Ground_ys_I_ (fun _ h9 => h9) rfl dX2_draw_56 ?_
                    refine lv_iload_n hx hb dX2_draw_59 rfl (lv_at hl 0 rfl) ?_
                    refine va_iald hx hb hK hP 2 1 rfl rfl (z_vpin (by omega) (by omega)) dX2_draw_60 ?_
                    refine lv_topi (fun z_50 ez_50 => ?_)
                    refine lv_iload_n hx hb dX2_draw_61 rfl (lv_at hl 3 rfl) ?_
                    refine lv_icmp_ne (tgt := 67) hx hb dX2_draw_62 (by decide) (fun c_51 => ?_) (fun c_51 => ?_)
                    · have k_52 : (z_50).toInt ≠ (p2).toInt := z_ne c_51
                      obtain ⟨z_53, ez_53⟩ : ∃ y : Int32, y = i_18 + 1 := ⟨_, rfl⟩
                      have kz_53 : (z_53).toInt = (i_18).toInt + (1 : Int) := by rw [ez_53]; exact z_add (b := 1) rfl rfl (z_al hF_19.1 (by decide)) (z_ah hF_19.2 (by decide))
                      refine lv_iinc (v := z_53) (lv' := [(3, .int z_53), (0, .ref h0), (1, .int p1), (2, .int p2)]) hx hb dX2_draw_67 hl (k := 0) rfl (by rw [ez_53]; rfl) (by decide) rfl (fun ls hl => ?_)
                      refine lv_goto (tgt := 37) hx hb dX2_draw_70 (by decide) ?_
                      exact ih_17 z_53 _ _ _ (show (11 - (z_53).toInt).toNat < n_16 by omega) (show ((0 : Int) ≤ (z_53).toInt ∧ (z_53).toInt ≤ (10 : Int)) by omega) hP hD hS (lv_sub hl [0, 1, 2, 3] rfl)
                    · have k_54 : (z_50).toInt = (p2).toInt := z_eq c_51
                      refine lv_iconst (v := (-1)) hx hb dX2_draw_65 (by decide) ?_
                      refine z_backQ hQQ ?_
                      have hP9 := hP
                      have hD9 := hD
                      have hK9 := hK.sub (tys' := []) [] rfl
                      refine W.widen (k := 0) (n := 0) (Nat.le_of_ble_eq_true rfl) (Nat.le_of_ble_eq_true rfl) ?_
                      exact W.iret (v := (-1)) hx hb hr (fun t ht hW => ⟨⟨(-1), (), rfl, trivial, ⟨gc, fh1, fh2, fh3, hB_gc, by rw [ht]; exact hP9, va_K.moved hW.alike hK9, hD9⟩⟩, hS.F ht⟩) hS.2.2 dX2_draw_66
            exact loop_15 _ 0 _ _ _ (Nat.lt_succ_self _) (show ((0 : Int) ≤ (0 : Int) ∧ (0 : Int) ≤ (10 : Int)) by omega) hP hD hS hl
          · have k_55 : (gc).toInt ≥ (10 : Int) := z_nlt c_13
            obtain rfl : gc = 10 := z_eq' (show (gc).toInt = (10 : Int) by omega)
            refine lv_iconst (v := (-1)) hx hb dX2_draw_33 (by decide) ?_
            refine z_backQ hQQ ?_
            have hP9 := hP
            have hD9 := hD
            have hK9 := hK.sub (tys' := []) [] rfl
            refine W.widen (k := 0) (n := 0) (Nat.le_of_ble_eq_true rfl) (Nat.le_of_ble_eq_true rfl) ?_
            exact W.iret (v := (-1)) hx hb hr (fun t ht hW => ⟨⟨(-1), (), rfl, trivial, ⟨10, fh1, fh2, fh3, (by decide), by rw [ht]; exact hP9, va_K.moved hW.alike hK9, hD9⟩⟩, hS.F ht⟩) hS.2.2 dX2_draw_34
